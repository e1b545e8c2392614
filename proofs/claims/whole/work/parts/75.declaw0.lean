set_option maxRecDepth 20000 in
theorem ggL_login_X4_login : GoodIn wsL_login wsX4_login := goodIn_ca (goodIn_r _ [6, 7, 8, 9, 10, 11, 12, 5, 13, 14, 15, 16, 17, 18, 19, 20, 21, 22, 23, 24, 25, 26, 27, 28, 29, 30, 31, 32, 33, 34, 35, 36, 37, 38, 39, 40, 41, 42, 43, 44, 45, 46, 47, 48, 49, 50, 51, 52, 53, 54, 55, 56, 57, 58, 59, 60, 61, 62, 63, 64, 65, 66, 67, 68, 69, 70, 71, 72, 73] (by decide +kernel) (by decide +kernel)) (goodIn_sub (fun _ h => List.mem_cons_of_mem _ (List.mem_append_right _ h)) (by decide +kernel))
set_option maxRecDepth 20000 in
theorem gL_login_X4_login : GoodIn wsL_login (wsV RL 7 RX4 yX4_login wsX4_login) := goodIn_app (goodIn_of _ (by decide +kernel)) ggL_login_X4_login
theorem dL_login_0 : decode cL_login 0 = .ok (.aload_n 2, 1) := by decide +kernel
theorem dL_login_1 : decode cL_login 1 = .ok (.iconst 0, 1) := by decide +kernel
theorem dL_login_2 : decode cL_login 2 = .ok (.aload_n 0, 1) := by decide +kernel
theorem dL_login_3 : decode cL_login 3 = .ok (.iload_n 1, 1) := by decide +kernel
theorem dL_login_4 : decode cL_login 4 = .ok (.invokevirtual 7, 3) := by decide +kernel
theorem dL_login_7 : decode cL_login 7 = .ok (.i2l, 1) := by decide +kernel
theorem dL_login_8 : decode cL_login 8 = .ok (.lastore, 1) := by decide +kernel
theorem dL_login_9 : decode cL_login 9 = .ok (.goto 6, 3) := by decide +kernel
theorem dL_login_12 : decode cL_login 12 = .ok (.astore_n 3, 1) := by decide +kernel
theorem dL_login_13 : decode cL_login 13 = .ok (.iconst 1, 1) := by decide +kernel
theorem dL_login_14 : decode cL_login 14 = .ok (.ireturn, 1) := by decide +kernel
theorem dL_login_15 : decode cL_login 15 = .ok (.iconst 0, 1) := by decide +kernel
theorem dL_login_16 : decode cL_login 16 = .ok (.ireturn, 1) := by decide +kernel
set_option maxRecDepth 20000 in
theorem ggL_power_X4_power : GoodIn wsL_power wsX4_power := goodIn_ca (goodIn_r _ [6, 7, 8, 9, 5, 10, 11, 12, 13, 14, 15, 16, 17, 18, 19, 20, 21, 22, 23, 24, 25, 26, 27, 28] (by decide +kernel) (by decide +kernel)) (goodIn_sub (fun _ h => List.mem_cons_of_mem _ (List.mem_append_right _ h)) (by decide +kernel))
set_option maxRecDepth 20000 in
theorem gL_power_X4_power : GoodIn wsL_power (wsV RL 15 RX4 yX4_power wsX4_power) := goodIn_app (goodIn_of _ (by decide +kernel)) ggL_power_X4_power
theorem dL_power_0 : decode cL_power 0 = .ok (.aload_n 0, 1) := by decide +kernel
theorem dL_power_1 : decode cL_power 1 = .ok (.iload_n 1, 1) := by decide +kernel
theorem dL_power_2 : decode cL_power 2 = .ok (.invokevirtual 15, 3) := by decide +kernel
theorem dL_power_5 : decode cL_power 5 = .ok (.goto 6, 3) := by decide +kernel
theorem dL_power_8 : decode cL_power 8 = .ok (.astore_n 2, 1) := by decide +kernel
theorem dL_power_9 : decode cL_power 9 = .ok (.iconst 1, 1) := by decide +kernel
theorem dL_power_10 : decode cL_power 10 = .ok (.ireturn, 1) := by decide +kernel
theorem dL_power_11 : decode cL_power 11 = .ok (.iconst 0, 1) := by decide +kernel
theorem dL_power_12 : decode cL_power 12 = .ok (.ireturn, 1) := by decide +kernel
set_option maxRecDepth 20000 in
theorem ggL_name_X4_name : GoodIn wsL_name wsX4_name := goodIn_ca (goodIn_r _ [6, 7, 8, 9, 5, 10, 11, 12, 13, 14, 15, 16, 17, 18, 19, 20, 21, 22, 23, 24, 25, 26, 27, 28] (by decide +kernel) (by decide +kernel)) (goodIn_sub (fun _ h => List.mem_cons_of_mem _ (List.mem_append_right _ h)) (by decide +kernel))
set_option maxRecDepth 20000 in
theorem gL_name_X4_name : GoodIn wsL_name (wsV RL 19 RX4 yX4_name wsX4_name) := goodIn_app (goodIn_of _ (by decide +kernel)) ggL_name_X4_name
theorem dL_name_0 : decode cL_name 0 = .ok (.aload_n 0, 1) := by decide +kernel
theorem dL_name_1 : decode cL_name 1 = .ok (.iload_n 1, 1) := by decide +kernel
theorem dL_name_2 : decode cL_name 2 = .ok (.lload_n 2, 1) := by decide +kernel
theorem dL_name_3 : decode cL_name 3 = .ok (.invokevirtual 19, 3) := by decide +kernel
theorem dL_name_6 : decode cL_name 6 = .ok (.goto 7, 3) := by decide +kernel
theorem dL_name_9 : decode cL_name 9 = .ok (.astore 4, 2) := by decide +kernel
theorem dL_name_11 : decode cL_name 11 = .ok (.iconst 1, 1) := by decide +kernel
theorem dL_name_12 : decode cL_name 12 = .ok (.ireturn, 1) := by decide +kernel
theorem dL_name_13 : decode cL_name 13 = .ok (.iconst 0, 1) := by decide +kernel
theorem dL_name_14 : decode cL_name 14 = .ok (.ireturn, 1) := by decide +kernel
set_option maxRecDepth 20000 in
theorem ggL_open_X4_open : GoodIn wsL_open wsX4_open := goodIn_ca (goodIn_r _ [6, 7, 8, 9, 10, 5, 11, 12, 13, 14, 15, 16, 17, 18, 19, 20, 21, 22, 23, 24, 25, 26, 27, 28, 29, 30, 31, 32, 33, 34, 35, 36, 37, 38, 39, 40, 41, 42, 43, 44, 45, 46, 47, 48, 49, 50, 51, 52, 53, 54, 55, 56, 57, 58, 59, 60, 61] (by decide +kernel) (by decide +kernel)) (goodIn_sub (fun _ h => List.mem_cons_of_mem _ (List.mem_append_right _ h)) (by decide +kernel))
set_option maxRecDepth 20000 in
theorem gL_open_X4_open : GoodIn wsL_open (wsV RL 25 RX4 yX4_open wsX4_open) := goodIn_app (goodIn_of _ (by decide +kernel)) ggL_open_X4_open
theorem dL_open_0 : decode cL_open 0 = .ok (.aload_n 2, 1) := by decide +kernel
theorem dL_open_1 : decode cL_open 1 = .ok (.iconst 0, 1) := by decide +kernel
theorem dL_open_2 : decode cL_open 2 = .ok (.aload_n 0, 1) := by decide +kernel
theorem dL_open_3 : decode cL_open 3 = .ok (.iload_n 1, 1) := by decide +kernel
theorem dL_open_4 : decode cL_open 4 = .ok (.invokevirtual 25, 3) := by decide +kernel
theorem dL_open_7 : decode cL_open 7 = .ok (.i2l, 1) := by decide +kernel
theorem dL_open_8 : decode cL_open 8 = .ok (.lastore, 1) := by decide +kernel
theorem dL_open_9 : decode cL_open 9 = .ok (.goto 6, 3) := by decide +kernel
theorem dL_open_12 : decode cL_open 12 = .ok (.astore_n 3, 1) := by decide +kernel
theorem dL_open_13 : decode cL_open 13 = .ok (.iconst 1, 1) := by decide +kernel
theorem dL_open_14 : decode cL_open 14 = .ok (.ireturn, 1) := by decide +kernel
theorem dL_open_15 : decode cL_open 15 = .ok (.iconst 0, 1) := by decide +kernel
theorem dL_open_16 : decode cL_open 16 = .ok (.ireturn, 1) := by decide +kernel
set_option maxRecDepth 20000 in
theorem ggL_make_X4_make : GoodIn wsL_make wsX4_make := goodIn_ca (goodIn_r _ [6, 7, 8, 9, 10, 5, 11, 12, 13, 14, 15, 16, 17, 18, 19, 20, 21, 22, 23, 24, 25, 26, 27, 28, 29, 30, 31, 32, 33, 34, 35, 36, 37, 38, 39, 40, 41, 42, 43, 44, 45, 46, 47, 48, 49, 50, 51, 52, 53, 54, 55, 56, 57, 58, 59, 60, 61, 62, 63, 64, 65, 66, 67, 68, 69, 70, 71, 72, 73, 74, 75, 76, 77, 78, 79] (by decide +kernel) (by decide +kernel)) (goodIn_sub (fun _ h => List.mem_cons_of_mem _ (List.mem_append_right _ h)) (by decide +kernel))
set_option maxRecDepth 20000 in
theorem gL_make_X4_make : GoodIn wsL_make (wsV RL 28 RX4 yX4_make wsX4_make) := goodIn_app (goodIn_of _ (by decide +kernel)) ggL_make_X4_make
theorem dL_make_0 : decode cL_make 0 = .ok (.aload_n 2, 1) := by decide +kernel
theorem dL_make_1 : decode cL_make 1 = .ok (.iconst 0, 1) := by decide +kernel
theorem dL_make_2 : decode cL_make 2 = .ok (.aload_n 0, 1) := by decide +kernel
theorem dL_make_3 : decode cL_make 3 = .ok (.iload_n 1, 1) := by decide +kernel
theorem dL_make_4 : decode cL_make 4 = .ok (.invokevirtual 28, 3) := by decide +kernel
theorem dL_make_7 : decode cL_make 7 = .ok (.i2l, 1) := by decide +kernel
theorem dL_make_8 : decode cL_make 8 = .ok (.lastore, 1) := by decide +kernel
theorem dL_make_9 : decode cL_make 9 = .ok (.goto 6, 3) := by decide +kernel
theorem dL_make_12 : decode cL_make 12 = .ok (.astore_n 3, 1) := by decide +kernel
theorem dL_make_13 : decode cL_make 13 = .ok (.iconst 1, 1) := by decide +kernel
theorem dL_make_14 : decode cL_make 14 = .ok (.ireturn, 1) := by decide +kernel
theorem dL_make_15 : decode cL_make 15 = .ok (.iconst 0, 1) := by decide +kernel
theorem dL_make_16 : decode cL_make 16 = .ok (.ireturn, 1) := by decide +kernel
set_option maxRecDepth 20000 in
theorem ggL_close_X4_close : GoodIn wsL_close wsX4_close := goodIn_ca (goodIn_r _ [6, 7, 8, 9, 5, 10, 11, 12, 13, 14, 15, 16, 17, 18, 19, 20, 21, 22, 23, 24, 25, 26, 27, 28, 29, 30, 31, 32, 33, 34, 35, 36, 37, 38, 39, 40, 41, 42, 43, 44, 45, 46, 47, 48, 49, 50, 51, 52, 53, 54, 55, 56, 57, 58, 59, 60, 61, 62, 63, 64, 65, 66, 67, 68, 69, 70, 71, 72, 73, 74] (by decide +kernel) (by decide +kernel)) (goodIn_sub (fun _ h => List.mem_cons_of_mem _ (List.mem_append_right _ h)) (by decide +kernel))
set_option maxRecDepth 20000 in
theorem gL_close_X4_close : GoodIn wsL_close (wsV RL 31 RX4 yX4_close wsX4_close) := goodIn_app (goodIn_of _ (by decide +kernel)) ggL_close_X4_close
theorem dL_close_0 : decode cL_close 0 = .ok (.aload_n 2, 1) := by decide +kernel
theorem dL_close_1 : decode cL_close 1 = .ok (.iconst 0, 1) := by decide +kernel
theorem dL_close_2 : decode cL_close 2 = .ok (.aload_n 0, 1) := by decide +kernel
theorem dL_close_3 : decode cL_close 3 = .ok (.iload_n 1, 1) := by decide +kernel
theorem dL_close_4 : decode cL_close 4 = .ok (.invokevirtual 31, 3) := by decide +kernel
theorem dL_close_7 : decode cL_close 7 = .ok (.i2l, 1) := by decide +kernel
theorem dL_close_8 : decode cL_close 8 = .ok (.lastore, 1) := by decide +kernel
theorem dL_close_9 : decode cL_close 9 = .ok (.goto 6, 3) := by decide +kernel
theorem dL_close_12 : decode cL_close 12 = .ok (.astore_n 3, 1) := by decide +kernel
theorem dL_close_13 : decode cL_close 13 = .ok (.iconst 1, 1) := by decide +kernel
theorem dL_close_14 : decode cL_close 14 = .ok (.ireturn, 1) := by decide +kernel
theorem dL_close_15 : decode cL_close 15 = .ok (.iconst 0, 1) := by decide +kernel
theorem dL_close_16 : decode cL_close 16 = .ok (.ireturn, 1) := by decide +kernel
set_option maxRecDepth 20000 in
theorem ggL_erase_X4_erase : GoodIn wsL_erase wsX4_erase := goodIn_ca (goodIn_r _ [6, 7, 8, 9, 10, 5, 11, 12, 13, 14, 15, 16, 17, 18, 19, 20, 21, 22, 23, 24, 25, 26, 27, 28, 29, 30, 31, 32, 33, 34, 35, 36, 37, 38, 39, 40, 41, 42, 43, 44, 45, 46, 47, 48, 49, 50, 51, 52, 53, 54, 55, 56, 57, 58, 59, 60, 61, 62, 63, 64, 65, 66, 67, 68, 69, 70, 71, 72, 73, 74, 75, 76, 77, 78, 79, 80, 81, 82, 83, 84, 85, 86, 87] (by decide +kernel) (by decide +kernel)) (goodIn_sub (fun _ h => List.mem_cons_of_mem _ (List.mem_append_right _ h)) (by decide +kernel))
set_option maxRecDepth 20000 in
theorem gL_erase_X4_erase : GoodIn wsL_erase (wsV RL 34 RX4 yX4_erase wsX4_erase) := goodIn_app (goodIn_of _ (by decide +kernel)) ggL_erase_X4_erase
theorem dL_erase_0 : decode cL_erase 0 = .ok (.aload_n 2, 1) := by decide +kernel
theorem dL_erase_1 : decode cL_erase 1 = .ok (.iconst 0, 1) := by decide +kernel
theorem dL_erase_2 : decode cL_erase 2 = .ok (.aload_n 0, 1) := by decide +kernel
theorem dL_erase_3 : decode cL_erase 3 = .ok (.iload_n 1, 1) := by decide +kernel
theorem dL_erase_4 : decode cL_erase 4 = .ok (.invokevirtual 34, 3) := by decide +kernel
theorem dL_erase_7 : decode cL_erase 7 = .ok (.i2l, 1) := by decide +kernel
theorem dL_erase_8 : decode cL_erase 8 = .ok (.lastore, 1) := by decide +kernel
theorem dL_erase_9 : decode cL_erase 9 = .ok (.goto 6, 3) := by decide +kernel
theorem dL_erase_12 : decode cL_erase 12 = .ok (.astore_n 3, 1) := by decide +kernel
theorem dL_erase_13 : decode cL_erase 13 = .ok (.iconst 1, 1) := by decide +kernel
theorem dL_erase_14 : decode cL_erase 14 = .ok (.ireturn, 1) := by decide +kernel
theorem dL_erase_15 : decode cL_erase 15 = .ok (.iconst 0, 1) := by decide +kernel
theorem dL_erase_16 : decode cL_erase 16 = .ok (.ireturn, 1) := by decide +kernel
set_option maxRecDepth 20000 in
theorem ggL_rename_X4_rename : GoodIn wsL_rename wsX4_rename := goodIn_ca (goodIn_r _ [6, 7, 8, 9, 10, 5, 11, 12, 13, 14, 15, 16, 17, 18, 19, 20, 21, 22, 23, 24, 25, 26, 27, 28, 29, 30, 31, 32, 33, 34, 35, 36, 37, 38, 39, 40, 41, 42, 43, 44, 45, 46, 47, 48, 49, 50, 51, 52, 53, 54, 55, 56, 57, 58, 59, 60, 61, 62, 63, 64, 65, 66, 67, 68, 69, 70, 71, 72, 73] (by decide +kernel) (by decide +kernel)) (goodIn_sub (fun _ h => List.mem_cons_of_mem _ (List.mem_append_right _ h)) (by decide +kernel))
set_option maxRecDepth 20000 in
theorem gL_rename_X4_rename : GoodIn wsL_rename (wsV RL 37 RX4 yX4_rename wsX4_rename) := goodIn_app (goodIn_of _ (by decide +kernel)) ggL_rename_X4_rename
theorem dL_rename_0 : decode cL_rename 0 = .ok (.aload_n 3, 1) := by decide +kernel
theorem dL_rename_1 : decode cL_rename 1 = .ok (.iconst 0, 1) := by decide +kernel
theorem dL_rename_2 : decode cL_rename 2 = .ok (.aload_n 0, 1) := by decide +kernel
theorem dL_rename_3 : decode cL_rename 3 = .ok (.iload_n 1, 1) := by decide +kernel
theorem dL_rename_4 : decode cL_rename 4 = .ok (.iload_n 2, 1) := by decide +kernel
theorem dL_rename_5 : decode cL_rename 5 = .ok (.invokevirtual 37, 3) := by decide +kernel
theorem dL_rename_8 : decode cL_rename 8 = .ok (.i2l, 1) := by decide +kernel
theorem dL_rename_9 : decode cL_rename 9 = .ok (.lastore, 1) := by decide +kernel
theorem dL_rename_10 : decode cL_rename 10 = .ok (.goto 7, 3) := by decide +kernel
theorem dL_rename_13 : decode cL_rename 13 = .ok (.astore 4, 2) := by decide +kernel
theorem dL_rename_15 : decode cL_rename 15 = .ok (.iconst 1, 1) := by decide +kernel
theorem dL_rename_16 : decode cL_rename 16 = .ok (.ireturn, 1) := by decide +kernel
theorem dL_rename_17 : decode cL_rename 17 = .ok (.iconst 0, 1) := by decide +kernel
theorem dL_rename_18 : decode cL_rename 18 = .ok (.ireturn, 1) := by decide +kernel
set_option maxRecDepth 20000 in
theorem ggL_guard_X4_guard : GoodIn wsL_guard wsX4_guard := goodIn_ca (goodIn_r _ [6, 7, 8, 9, 10, 5, 11, 12, 13, 14, 15, 16, 17, 18, 19, 20, 21, 22, 23, 24, 25, 26, 27, 28, 29, 30, 31, 32, 33, 34, 35, 36, 37, 38, 39, 40, 41, 42, 43, 44, 45, 46, 47, 48, 49, 50, 51, 52, 53, 54, 55, 56, 57, 58, 59, 60, 61, 62, 63, 64, 65] (by decide +kernel) (by decide +kernel)) (goodIn_sub (fun _ h => List.mem_cons_of_mem _ (List.mem_append_right _ h)) (by decide +kernel))
set_option maxRecDepth 20000 in
theorem gL_guard_X4_guard : GoodIn wsL_guard (wsV RL 41 RX4 yX4_guard wsX4_guard) := goodIn_app (goodIn_of _ (by decide +kernel)) ggL_guard_X4_guard
theorem dL_guard_0 : decode cL_guard 0 = .ok (.aload_n 3, 1) := by decide +kernel
theorem dL_guard_1 : decode cL_guard 1 = .ok (.iconst 0, 1) := by decide +kernel
theorem dL_guard_2 : decode cL_guard 2 = .ok (.aload_n 0, 1) := by decide +kernel
theorem dL_guard_3 : decode cL_guard 3 = .ok (.iload_n 1, 1) := by decide +kernel
theorem dL_guard_4 : decode cL_guard 4 = .ok (.iload_n 2, 1) := by decide +kernel
theorem dL_guard_5 : decode cL_guard 5 = .ok (.invokevirtual 41, 3) := by decide +kernel
theorem dL_guard_8 : decode cL_guard 8 = .ok (.i2l, 1) := by decide +kernel
theorem dL_guard_9 : decode cL_guard 9 = .ok (.lastore, 1) := by decide +kernel
theorem dL_guard_10 : decode cL_guard 10 = .ok (.goto 7, 3) := by decide +kernel
theorem dL_guard_13 : decode cL_guard 13 = .ok (.astore 4, 2) := by decide +kernel
theorem dL_guard_15 : decode cL_guard 15 = .ok (.iconst 1, 1) := by decide +kernel
theorem dL_guard_16 : decode cL_guard 16 = .ok (.ireturn, 1) := by decide +kernel
theorem dL_guard_17 : decode cL_guard 17 = .ok (.iconst 0, 1) := by decide +kernel
theorem dL_guard_18 : decode cL_guard 18 = .ok (.ireturn, 1) := by decide +kernel
set_option maxRecDepth 20000 in
theorem ggL_search_X4_search : GoodIn wsL_search wsX4_search := goodIn_ca (goodIn_ca (goodIn_r _ [7, 8, 9, 10, 11, 6, 12, 13, 14, 15, 16, 17, 18, 19, 20, 21, 22, 23, 24, 25, 26, 27, 28, 29, 30, 31, 32, 33, 34, 35, 36, 37, 38, 39, 40, 41, 42, 43, 44, 45, 46, 47, 48, 49, 50, 51, 52, 53, 54, 55, 56, 57] (by decide +kernel) (by decide +kernel)) (goodIn_sub (fun _ h => List.mem_cons_of_mem _ (List.mem_append_left _ (List.mem_append_right _ h))) (by decide +kernel))) (goodIn_sub (fun _ h => List.mem_cons_of_mem _ (List.mem_append_right _ h)) (by decide +kernel))
set_option maxRecDepth 20000 in
theorem gL_search_X4_search : GoodIn wsL_search (wsV RL 45 RX4 yX4_search wsX4_search) := goodIn_app (goodIn_of _ (by decide +kernel)) ggL_search_X4_search
theorem dL_search_0 : decode cL_search 0 = .ok (.aload_n 3, 1) := by decide +kernel
theorem dL_search_1 : decode cL_search 1 = .ok (.iconst 0, 1) := by decide +kernel
theorem dL_search_2 : decode cL_search 2 = .ok (.aload_n 0, 1) := by decide +kernel
theorem dL_search_3 : decode cL_search 3 = .ok (.iload_n 1, 1) := by decide +kernel
theorem dL_search_4 : decode cL_search 4 = .ok (.iload_n 2, 1) := by decide +kernel
theorem dL_search_5 : decode cL_search 5 = .ok (.invokevirtual 45, 3) := by decide +kernel
theorem dL_search_8 : decode cL_search 8 = .ok (.i2l, 1) := by decide +kernel
theorem dL_search_9 : decode cL_search 9 = .ok (.lastore, 1) := by decide +kernel
theorem dL_search_10 : decode cL_search 10 = .ok (.goto 11, 3) := by decide +kernel
theorem dL_search_13 : decode cL_search 13 = .ok (.astore 4, 2) := by decide +kernel
theorem dL_search_15 : decode cL_search 15 = .ok (.iconst 1, 1) := by decide +kernel
theorem dL_search_16 : decode cL_search 16 = .ok (.ireturn, 1) := by decide +kernel
theorem dL_search_17 : decode cL_search 17 = .ok (.astore 4, 2) := by decide +kernel
theorem dL_search_19 : decode cL_search 19 = .ok (.iconst 2, 1) := by decide +kernel
theorem dL_search_20 : decode cL_search 20 = .ok (.ireturn, 1) := by decide +kernel
theorem dL_search_21 : decode cL_search 21 = .ok (.iconst 0, 1) := by decide +kernel
theorem dL_search_22 : decode cL_search 22 = .ok (.ireturn, 1) := by decide +kernel
set_option maxRecDepth 20000 in
theorem ggL_read_X4_read : GoodIn wsL_read wsX4_read := goodIn_ca (goodIn_r _ [6, 7, 8, 9, 5, 10, 11, 12, 13, 14, 15, 16, 17, 18, 19, 20, 21, 22, 23, 24, 25, 26, 27, 28, 29, 30, 31, 32, 33, 34, 35, 36, 37, 38, 39, 40, 41, 42, 43, 44, 45, 46, 47, 48, 49, 50, 51, 52, 53, 54, 55, 56, 57, 58, 59, 60, 61, 62, 63, 64, 65, 66, 67, 68, 69, 70, 71, 72, 73, 74, 75, 76, 77, 78, 79, 80, 81, 82, 83, 84, 85, 86, 87, 88, 89, 90, 91, 92, 93, 94, 95, 96, 97, 98, 99, 100, 101, 102, 103, 104, 105, 106, 107, 108, 109, 110, 111, 112, 113, 114, 115, 116, 117, 118, 119, 120, 121, 122, 123, 124, 125, 126, 127, 128, 129, 130, 131, 132, 133, 134, 135, 136, 137, 138, 139, 140, 141, 142, 143] (by decide +kernel) (by decide +kernel)) (goodIn_sub (fun _ h => List.mem_cons_of_mem _ (List.mem_append_right _ h)) (by decide +kernel))
set_option maxRecDepth 20000 in
theorem gL_read_X4_read : GoodIn wsL_read (wsV RL 48 RX4 yX4_read wsX4_read) := goodIn_app (goodIn_of _ (by decide +kernel)) ggL_read_X4_read
theorem dL_read_0 : decode cL_read 0 = .ok (.aload_n 2, 1) := by decide +kernel
theorem dL_read_1 : decode cL_read 1 = .ok (.iconst 0, 1) := by decide +kernel
theorem dL_read_2 : decode cL_read 2 = .ok (.aload_n 0, 1) := by decide +kernel
theorem dL_read_3 : decode cL_read 3 = .ok (.iload_n 1, 1) := by decide +kernel
theorem dL_read_4 : decode cL_read 4 = .ok (.invokevirtual 48, 3) := by decide +kernel
theorem dL_read_7 : decode cL_read 7 = .ok (.i2l, 1) := by decide +kernel
theorem dL_read_8 : decode cL_read 8 = .ok (.lastore, 1) := by decide +kernel
theorem dL_read_9 : decode cL_read 9 = .ok (.goto 6, 3) := by decide +kernel
theorem dL_read_12 : decode cL_read 12 = .ok (.astore_n 3, 1) := by decide +kernel
theorem dL_read_13 : decode cL_read 13 = .ok (.iconst 1, 1) := by decide +kernel
theorem dL_read_14 : decode cL_read 14 = .ok (.ireturn, 1) := by decide +kernel
theorem dL_read_15 : decode cL_read 15 = .ok (.iconst 0, 1) := by decide +kernel
theorem dL_read_16 : decode cL_read 16 = .ok (.ireturn, 1) := by decide +kernel
set_option maxRecDepth 20000 in
theorem ggL_write_X4_write : GoodIn wsL_write wsX4_write := goodIn_ca (goodIn_r _ [6, 7, 8, 9, 5, 10, 11, 12, 13, 14, 15, 16, 17, 18, 19, 20, 21, 22, 23, 24, 25, 26, 27, 28, 29, 30, 31, 32, 33, 34, 35, 36, 37, 38, 39, 40, 41, 42, 43, 44, 45, 46, 47, 48, 49, 50, 51, 52, 53, 54, 55, 56, 57, 58, 59, 60, 61, 62, 63, 64, 65, 66, 67, 68, 69, 70, 71, 72, 73, 74, 75, 76, 77, 78, 79, 80, 81, 82, 83, 84, 85, 86, 87, 88, 89, 90, 91, 92, 93, 94, 95, 96, 97, 98, 99, 100, 101, 102, 103, 104, 105, 106, 107, 108, 109, 110, 111, 112, 113, 114, 115, 116, 117, 118, 119, 120, 121, 122, 123, 124, 125, 126, 127, 128, 129, 130, 131, 132, 133, 134, 135, 136, 137, 138, 139, 140, 141, 142, 143] (by decide +kernel) (by decide +kernel)) (goodIn_sub (fun _ h => List.mem_cons_of_mem _ (List.mem_append_right _ h)) (by decide +kernel))
set_option maxRecDepth 20000 in
theorem gL_write_X4_write : GoodIn wsL_write (wsV RL 51 RX4 yX4_write wsX4_write) := goodIn_app (goodIn_of _ (by decide +kernel)) ggL_write_X4_write
theorem dL_write_0 : decode cL_write 0 = .ok (.aload_n 2, 1) := by decide +kernel
theorem dL_write_1 : decode cL_write 1 = .ok (.iconst 0, 1) := by decide +kernel
theorem dL_write_2 : decode cL_write 2 = .ok (.aload_n 0, 1) := by decide +kernel
theorem dL_write_3 : decode cL_write 3 = .ok (.iload_n 1, 1) := by decide +kernel
theorem dL_write_4 : decode cL_write 4 = .ok (.invokevirtual 51, 3) := by decide +kernel
theorem dL_write_7 : decode cL_write 7 = .ok (.i2l, 1) := by decide +kernel
theorem dL_write_8 : decode cL_write 8 = .ok (.lastore, 1) := by decide +kernel
theorem dL_write_9 : decode cL_write 9 = .ok (.goto 6, 3) := by decide +kernel
theorem dL_write_12 : decode cL_write 12 = .ok (.astore_n 3, 1) := by decide +kernel
theorem dL_write_13 : decode cL_write 13 = .ok (.iconst 1, 1) := by decide +kernel
theorem dL_write_14 : decode cL_write 14 = .ok (.ireturn, 1) := by decide +kernel
theorem dL_write_15 : decode cL_write 15 = .ok (.iconst 0, 1) := by decide +kernel
theorem dL_write_16 : decode cL_write 16 = .ok (.ireturn, 1) := by decide +kernel
set_option maxRecDepth 20000 in
theorem ggL_at_X4_at : GoodIn wsL_at wsX4_at := goodIn_ca (goodIn_ca (goodIn_r _ [7, 8, 9, 10, 11, 6, 12, 13, 14, 15, 16, 17, 18, 19, 20, 21, 22, 23, 24, 25, 26, 27, 28, 29, 30, 31, 32, 33, 34, 35, 36, 37, 38, 39, 40, 41, 42, 43, 44, 45, 46, 47, 48, 49, 50, 51, 52, 53, 54, 55, 56, 57, 58, 59, 60, 61, 62, 63, 64, 65, 66, 67, 68, 69, 70, 71, 72, 73, 74, 75, 76, 77, 78, 79, 80, 81, 82, 83, 84, 85, 86, 87, 88, 89, 90, 91, 92, 93, 94, 95, 96, 97, 98, 99, 100, 101, 102, 103, 104, 105, 106, 107, 108, 109, 110, 111, 112, 113, 114, 115, 116, 117, 118, 119, 120, 121, 122, 123, 124, 125, 126, 127, 128, 129, 130, 131, 132, 133, 134, 135, 136, 137, 138, 139, 140, 141, 142, 143, 144, 145, 146] (by decide +kernel) (by decide +kernel)) (goodIn_sub (fun _ h => List.mem_cons_of_mem _ (List.mem_append_left _ (List.mem_append_right _ h))) (by decide +kernel))) (goodIn_sub (fun _ h => List.mem_cons_of_mem _ (List.mem_append_right _ h)) (by decide +kernel))
set_option maxRecDepth 20000 in
theorem gL_at_X4_at : GoodIn wsL_at (wsV RL 54 RX4 yX4_at wsX4_at) := goodIn_app (goodIn_of _ (by decide +kernel)) ggL_at_X4_at
theorem dL_at_0 : decode cL_at 0 = .ok (.aload 4, 2) := by decide +kernel
theorem dL_at_2 : decode cL_at 2 = .ok (.iconst 0, 1) := by decide +kernel
theorem dL_at_3 : decode cL_at 3 = .ok (.aload_n 0, 1) := by decide +kernel
theorem dL_at_4 : decode cL_at 4 = .ok (.iload_n 1, 1) := by decide +kernel
theorem dL_at_5 : decode cL_at 5 = .ok (.iload_n 2, 1) := by decide +kernel
theorem dL_at_6 : decode cL_at 6 = .ok (.iload_n 3, 1) := by decide +kernel
theorem dL_at_7 : decode cL_at 7 = .ok (.invokevirtual 54, 3) := by decide +kernel
theorem dL_at_10 : decode cL_at 10 = .ok (.i2l, 1) := by decide +kernel
theorem dL_at_11 : decode cL_at 11 = .ok (.lastore, 1) := by decide +kernel
theorem dL_at_12 : decode cL_at 12 = .ok (.goto 11, 3) := by decide +kernel
theorem dL_at_15 : decode cL_at 15 = .ok (.astore 5, 2) := by decide +kernel
theorem dL_at_17 : decode cL_at 17 = .ok (.iconst 1, 1) := by decide +kernel
theorem dL_at_18 : decode cL_at 18 = .ok (.ireturn, 1) := by decide +kernel
theorem dL_at_19 : decode cL_at 19 = .ok (.astore 5, 2) := by decide +kernel
theorem dL_at_21 : decode cL_at 21 = .ok (.iconst 2, 1) := by decide +kernel
theorem dL_at_22 : decode cL_at 22 = .ok (.ireturn, 1) := by decide +kernel
theorem dL_at_23 : decode cL_at 23 = .ok (.iconst 0, 1) := by decide +kernel
theorem dL_at_24 : decode cL_at 24 = .ok (.ireturn, 1) := by decide +kernel
set_option maxRecDepth 20000 in
theorem ggL_size_X4_size : GoodIn wsL_size wsX4_size := goodIn_ca (goodIn_r _ [6, 7, 8, 9, 10, 5, 11, 12, 13, 14, 15, 16, 17, 18, 19, 20, 21, 22, 23, 24, 25, 26, 27, 28, 29, 30, 31, 32, 33, 34, 35, 36, 37, 38, 39, 40, 41, 42, 43, 44, 45, 46, 47, 48, 49, 50, 51, 52, 53, 54, 55] (by decide +kernel) (by decide +kernel)) (goodIn_sub (fun _ h => List.mem_cons_of_mem _ (List.mem_append_right _ h)) (by decide +kernel))
set_option maxRecDepth 20000 in
theorem gL_size_X4_size : GoodIn wsL_size (wsV RL 58 RX4 yX4_size wsX4_size) := goodIn_app (goodIn_of _ (by decide +kernel)) ggL_size_X4_size
theorem dL_size_0 : decode cL_size 0 = .ok (.aload_n 2, 1) := by decide +kernel
theorem dL_size_1 : decode cL_size 1 = .ok (.iconst 0, 1) := by decide +kernel
theorem dL_size_2 : decode cL_size 2 = .ok (.aload_n 0, 1) := by decide +kernel
theorem dL_size_3 : decode cL_size 3 = .ok (.iload_n 1, 1) := by decide +kernel
theorem dL_size_4 : decode cL_size 4 = .ok (.invokevirtual 58, 3) := by decide +kernel
theorem dL_size_7 : decode cL_size 7 = .ok (.i2l, 1) := by decide +kernel
theorem dL_size_8 : decode cL_size 8 = .ok (.lastore, 1) := by decide +kernel
theorem dL_size_9 : decode cL_size 9 = .ok (.goto 6, 3) := by decide +kernel
theorem dL_size_12 : decode cL_size 12 = .ok (.astore_n 3, 1) := by decide +kernel
theorem dL_size_13 : decode cL_size 13 = .ok (.iconst 1, 1) := by decide +kernel
theorem dL_size_14 : decode cL_size 14 = .ok (.ireturn, 1) := by decide +kernel
theorem dL_size_15 : decode cL_size 15 = .ok (.iconst 0, 1) := by decide +kernel
theorem dL_size_16 : decode cL_size 16 = .ok (.ireturn, 1) := by decide +kernel
set_option maxRecDepth 20000 in
theorem ggL_has_X4_has : GoodIn wsL_has wsX4_has := goodIn_ca (goodIn_ca (goodIn_r _ [7, 8, 9, 10, 6, 11, 12, 13, 14, 15, 16, 17, 18, 19, 20, 21, 22, 23, 24, 25, 26, 27, 28, 29, 30, 31, 32, 33, 34] (by decide +kernel) (by decide +kernel)) (goodIn_sub (fun _ h => List.mem_cons_of_mem _ (List.mem_append_left _ (List.mem_append_right _ h))) (by decide +kernel))) (goodIn_sub (fun _ h => List.mem_cons_of_mem _ (List.mem_append_right _ h)) (by decide +kernel))
set_option maxRecDepth 20000 in
theorem gL_has_X4_has : GoodIn wsL_has (wsV RL 61 RX4 yX4_has wsX4_has) := goodIn_app (goodIn_of _ (by decide +kernel)) ggL_has_X4_has
theorem dL_has_0 : decode cL_has 0 = .ok (.aload_n 3, 1) := by decide +kernel
theorem dL_has_1 : decode cL_has 1 = .ok (.iconst 0, 1) := by decide +kernel
theorem dL_has_2 : decode cL_has 2 = .ok (.aload_n 0, 1) := by decide +kernel
theorem dL_has_3 : decode cL_has 3 = .ok (.iload_n 1, 1) := by decide +kernel
theorem dL_has_4 : decode cL_has 4 = .ok (.iload_n 2, 1) := by decide +kernel
theorem dL_has_5 : decode cL_has 5 = .ok (.invokevirtual 61, 3) := by decide +kernel
theorem dL_has_8 : decode cL_has 8 = .ok (.i2l, 1) := by decide +kernel
theorem dL_has_9 : decode cL_has 9 = .ok (.lastore, 1) := by decide +kernel
theorem dL_has_10 : decode cL_has 10 = .ok (.goto 11, 3) := by decide +kernel
theorem dL_has_13 : decode cL_has 13 = .ok (.astore 4, 2) := by decide +kernel
theorem dL_has_15 : decode cL_has 15 = .ok (.iconst 1, 1) := by decide +kernel
theorem dL_has_16 : decode cL_has 16 = .ok (.ireturn, 1) := by decide +kernel
theorem dL_has_17 : decode cL_has 17 = .ok (.astore 4, 2) := by decide +kernel
theorem dL_has_19 : decode cL_has 19 = .ok (.iconst 2, 1) := by decide +kernel
theorem dL_has_20 : decode cL_has 20 = .ok (.ireturn, 1) := by decide +kernel
theorem dL_has_21 : decode cL_has 21 = .ok (.iconst 0, 1) := by decide +kernel
theorem dL_has_22 : decode cL_has 22 = .ok (.ireturn, 1) := by decide +kernel
set_option maxRecDepth 20000 in
theorem ggL_set_X4_set : GoodIn wsL_set wsX4_set := goodIn_ca (goodIn_ca (goodIn_r _ [7, 8, 9, 10, 6, 11, 12, 13, 14, 15, 16, 17, 18, 19, 20, 21, 22, 23] (by decide +kernel) (by decide +kernel)) (goodIn_sub (fun _ h => List.mem_cons_of_mem _ (List.mem_append_left _ (List.mem_append_right _ h))) (by decide +kernel))) (goodIn_sub (fun _ h => List.mem_cons_of_mem _ (List.mem_append_right _ h)) (by decide +kernel))
set_option maxRecDepth 20000 in
theorem gL_set_X4_set : GoodIn wsL_set (wsV RL 64 RX4 yX4_set wsX4_set) := goodIn_app (goodIn_of _ (by decide +kernel)) ggL_set_X4_set
theorem dL_set_0 : decode cL_set 0 = .ok (.aload_n 3, 1) := by decide +kernel
theorem dL_set_1 : decode cL_set 1 = .ok (.iconst 0, 1) := by decide +kernel
theorem dL_set_2 : decode cL_set 2 = .ok (.aload_n 0, 1) := by decide +kernel
theorem dL_set_3 : decode cL_set 3 = .ok (.iload_n 1, 1) := by decide +kernel
theorem dL_set_4 : decode cL_set 4 = .ok (.iload_n 2, 1) := by decide +kernel
theorem dL_set_5 : decode cL_set 5 = .ok (.invokevirtual 64, 3) := by decide +kernel
theorem dL_set_8 : decode cL_set 8 = .ok (.i2l, 1) := by decide +kernel
theorem dL_set_9 : decode cL_set 9 = .ok (.lastore, 1) := by decide +kernel
theorem dL_set_10 : decode cL_set 10 = .ok (.goto 11, 3) := by decide +kernel
theorem dL_set_13 : decode cL_set 13 = .ok (.astore 4, 2) := by decide +kernel
theorem dL_set_15 : decode cL_set 15 = .ok (.iconst 1, 1) := by decide +kernel
theorem dL_set_16 : decode cL_set 16 = .ok (.ireturn, 1) := by decide +kernel
theorem dL_set_17 : decode cL_set 17 = .ok (.astore 4, 2) := by decide +kernel
theorem dL_set_19 : decode cL_set 19 = .ok (.iconst 2, 1) := by decide +kernel
theorem dL_set_20 : decode cL_set 20 = .ok (.ireturn, 1) := by decide +kernel
theorem dL_set_21 : decode cL_set 21 = .ok (.iconst 0, 1) := by decide +kernel
theorem dL_set_22 : decode cL_set 22 = .ok (.ireturn, 1) := by decide +kernel
set_option maxRecDepth 20000 in
theorem ggL_buffer_X4_buffer : GoodIn wsL_buffer wsX4_buffer := goodIn_ca (goodIn_r _ [6, 7, 8, 9, 5, 10, 11, 12, 13, 14, 15, 16, 17] (by decide +kernel) (by decide +kernel)) (goodIn_sub (fun _ h => List.mem_cons_of_mem _ (List.mem_append_right _ h)) (by decide +kernel))
set_option maxRecDepth 20000 in
theorem gL_buffer_X4_buffer : GoodIn wsL_buffer (wsV RL 67 RX4 yX4_buffer wsX4_buffer) := goodIn_app (goodIn_of _ (by decide +kernel)) ggL_buffer_X4_buffer
theorem dL_buffer_0 : decode cL_buffer 0 = .ok (.aload_n 2, 1) := by decide +kernel
theorem dL_buffer_1 : decode cL_buffer 1 = .ok (.iconst 0, 1) := by decide +kernel
theorem dL_buffer_2 : decode cL_buffer 2 = .ok (.aload_n 0, 1) := by decide +kernel
theorem dL_buffer_3 : decode cL_buffer 3 = .ok (.iload_n 1, 1) := by decide +kernel
theorem dL_buffer_4 : decode cL_buffer 4 = .ok (.invokevirtual 67, 3) := by decide +kernel
theorem dL_buffer_7 : decode cL_buffer 7 = .ok (.lastore, 1) := by decide +kernel
theorem dL_buffer_8 : decode cL_buffer 8 = .ok (.goto 6, 3) := by decide +kernel
theorem dL_buffer_11 : decode cL_buffer 11 = .ok (.astore_n 3, 1) := by decide +kernel
theorem dL_buffer_12 : decode cL_buffer 12 = .ok (.iconst 1, 1) := by decide +kernel
theorem dL_buffer_13 : decode cL_buffer 13 = .ok (.ireturn, 1) := by decide +kernel
theorem dL_buffer_14 : decode cL_buffer 14 = .ok (.iconst 0, 1) := by decide +kernel
theorem dL_buffer_15 : decode cL_buffer 15 = .ok (.ireturn, 1) := by decide +kernel
set_option maxRecDepth 20000 in
theorem ggL_disk_X4_disk : GoodIn wsL_disk wsX4_disk := goodIn_ca (goodIn_r _ [6, 7, 8, 9, 5, 10, 11, 12, 13, 14, 15, 16, 17, 18, 19, 20, 21] (by decide +kernel) (by decide +kernel)) (goodIn_sub (fun _ h => List.mem_cons_of_mem _ (List.mem_append_right _ h)) (by decide +kernel))
set_option maxRecDepth 20000 in
theorem gL_disk_X4_disk : GoodIn wsL_disk (wsV RL 71 RX4 yX4_disk wsX4_disk) := goodIn_app (goodIn_of _ (by decide +kernel)) ggL_disk_X4_disk
theorem dL_disk_0 : decode cL_disk 0 = .ok (.aload_n 2, 1) := by decide +kernel
theorem dL_disk_1 : decode cL_disk 1 = .ok (.iconst 0, 1) := by decide +kernel
theorem dL_disk_2 : decode cL_disk 2 = .ok (.aload_n 0, 1) := by decide +kernel
theorem dL_disk_3 : decode cL_disk 3 = .ok (.iload_n 1, 1) := by decide +kernel
theorem dL_disk_4 : decode cL_disk 4 = .ok (.invokevirtual 71, 3) := by decide +kernel
theorem dL_disk_7 : decode cL_disk 7 = .ok (.i2l, 1) := by decide +kernel
theorem dL_disk_8 : decode cL_disk 8 = .ok (.lastore, 1) := by decide +kernel
theorem dL_disk_9 : decode cL_disk 9 = .ok (.goto 6, 3) := by decide +kernel
theorem dL_disk_12 : decode cL_disk 12 = .ok (.astore_n 3, 1) := by decide +kernel
theorem dL_disk_13 : decode cL_disk 13 = .ok (.iconst 1, 1) := by decide +kernel
theorem dL_disk_14 : decode cL_disk 14 = .ok (.ireturn, 1) := by decide +kernel
theorem dL_disk_15 : decode cL_disk 15 = .ok (.iconst 0, 1) := by decide +kernel
theorem dL_disk_16 : decode cL_disk 16 = .ok (.ireturn, 1) := by decide +kernel
set_option maxRecDepth 20000 in
theorem ggL_spoil_X4_spoil : GoodIn wsL_spoil wsX4_spoil := goodIn_ca (goodIn_ca (goodIn_r _ [7, 8, 9, 10, 6, 11, 12, 13, 14, 15, 16, 17, 18, 19, 20, 21, 22, 23, 24, 25, 26, 27] (by decide +kernel) (by decide +kernel)) (goodIn_sub (fun _ h => List.mem_cons_of_mem _ (List.mem_append_left _ (List.mem_append_right _ h))) (by decide +kernel))) (goodIn_sub (fun _ h => List.mem_cons_of_mem _ (List.mem_append_right _ h)) (by decide +kernel))
set_option maxRecDepth 20000 in
theorem gL_spoil_X4_spoil : GoodIn wsL_spoil (wsV RL 74 RX4 yX4_spoil wsX4_spoil) := goodIn_app (goodIn_of _ (by decide +kernel)) ggL_spoil_X4_spoil
theorem dL_spoil_0 : decode cL_spoil 0 = .ok (.aload_n 0, 1) := by decide +kernel
theorem dL_spoil_1 : decode cL_spoil 1 = .ok (.iload_n 1, 1) := by decide +kernel
theorem dL_spoil_2 : decode cL_spoil 2 = .ok (.iload_n 2, 1) := by decide +kernel
theorem dL_spoil_3 : decode cL_spoil 3 = .ok (.invokevirtual 74, 3) := by decide +kernel
theorem dL_spoil_6 : decode cL_spoil 6 = .ok (.goto 9, 3) := by decide +kernel
theorem dL_spoil_9 : decode cL_spoil 9 = .ok (.astore_n 3, 1) := by decide +kernel
theorem dL_spoil_10 : decode cL_spoil 10 = .ok (.iconst 1, 1) := by decide +kernel
theorem dL_spoil_11 : decode cL_spoil 11 = .ok (.ireturn, 1) := by decide +kernel
theorem dL_spoil_12 : decode cL_spoil 12 = .ok (.astore_n 3, 1) := by decide +kernel
theorem dL_spoil_13 : decode cL_spoil 13 = .ok (.iconst 2, 1) := by decide +kernel
theorem dL_spoil_14 : decode cL_spoil 14 = .ok (.ireturn, 1) := by decide +kernel
theorem dL_spoil_15 : decode cL_spoil 15 = .ok (.iconst 0, 1) := by decide +kernel
theorem dL_spoil_16 : decode cL_spoil 16 = .ok (.ireturn, 1) := by decide +kernel
set_option maxRecDepth 20000 in
theorem ggL_told_X4_told : GoodIn wsL_told wsX4_told := goodIn_ca (goodIn_r _ [6, 7, 8, 9, 10, 11, 5, 12, 13, 14, 15, 16, 17, 18, 19, 20, 21, 22, 23, 24, 25, 26, 27, 28, 29, 30, 31, 32, 33, 34, 35, 36, 37, 38, 39, 40, 41, 42, 43, 44, 45, 46, 47, 48, 49, 50, 51, 52, 53, 54, 55, 56, 57, 58, 59, 60, 61, 62] (by decide +kernel) (by decide +kernel)) (goodIn_sub (fun _ h => List.mem_cons_of_mem _ (List.mem_append_right _ h)) (by decide +kernel))
set_option maxRecDepth 20000 in
theorem gL_told_X4_told : GoodIn wsL_told (wsV RL 78 RX4 yX4_told wsX4_told) := goodIn_app (goodIn_of _ (by decide +kernel)) ggL_told_X4_told
theorem dL_told_0 : decode cL_told 0 = .ok (.aload_n 2, 1) := by decide +kernel
theorem dL_told_1 : decode cL_told 1 = .ok (.iconst 0, 1) := by decide +kernel
theorem dL_told_2 : decode cL_told 2 = .ok (.aload_n 0, 1) := by decide +kernel
theorem dL_told_3 : decode cL_told 3 = .ok (.iload_n 1, 1) := by decide +kernel
theorem dL_told_4 : decode cL_told 4 = .ok (.invokevirtual 78, 3) := by decide +kernel
theorem dL_told_7 : decode cL_told 7 = .ok (.i2l, 1) := by decide +kernel
theorem dL_told_8 : decode cL_told 8 = .ok (.lastore, 1) := by decide +kernel
theorem dL_told_9 : decode cL_told 9 = .ok (.goto 6, 3) := by decide +kernel
theorem dL_told_12 : decode cL_told 12 = .ok (.astore_n 3, 1) := by decide +kernel
theorem dL_told_13 : decode cL_told 13 = .ok (.iconst 1, 1) := by decide +kernel
theorem dL_told_14 : decode cL_told 14 = .ok (.ireturn, 1) := by decide +kernel
theorem dL_told_15 : decode cL_told 15 = .ok (.iconst 0, 1) := by decide +kernel
theorem dL_told_16 : decode cL_told 16 = .ok (.ireturn, 1) := by decide +kernel
