set_option maxRecDepth 20000 in
theorem ggX4_init_X3_init : GoodIn wsX4_init wsX3_init := goodIn_r _ [23, 24, 2, 3, 20, 25, 26, 43, 44, 45, 46] (by decide +kernel) (by decide +kernel)
set_option maxRecDepth 20000 in
theorem gX4_init_X3_init_n11 : GoodIn wsX4_init (wsX3_init) := ggX4_init_X3_init
set_option maxRecDepth 20000 in
theorem ggX4_init_X2_init : GoodIn wsX4_init wsX2_init := goodIn_r _ [28, 29, 2, 3, 20, 30, 31, 32, 52, 53, 54, 55, 43, 44, 45, 46] (by decide +kernel) (by decide +kernel)
set_option maxRecDepth 20000 in
theorem gX4_init_X2_init_n18 : GoodIn wsX4_init (wsX2_init) := ggX4_init_X2_init
set_option maxRecDepth 20000 in
theorem ggX4_init_X0_init : GoodIn wsX4_init wsX0_init := goodIn_r _ [34, 35, 2, 3, 36, 37, 56] (by decide +kernel) (by decide +kernel)
set_option maxRecDepth 20000 in
theorem gX4_init_X0_init_n27 : GoodIn wsX4_init (wsX0_init) := ggX4_init_X0_init
set_option maxRecDepth 20000 in
theorem ggX4_init_X1_init : GoodIn wsX4_init wsX1_init := goodIn_r _ [39, 40, 2, 3, 20, 41, 42, 57, 58, 59, 60, 61, 62, 63] (by decide +kernel) (by decide +kernel)
set_option maxRecDepth 20000 in
theorem gX4_init_X1_init_n38 : GoodIn wsX4_init (wsX1_init) := ggX4_init_X1_init
theorem dX4_init_0 : decode cX4_init 0 = .ok (.aload_n 0, 1) := by decide +kernel
theorem dX4_init_1 : decode cX4_init 1 = .ok (.invokespecial 3, 3) := by decide +kernel
theorem dX4_init_4 : decode cX4_init 4 = .ok (.aload_n 0, 1) := by decide +kernel
theorem dX4_init_5 : decode cX4_init 5 = .ok (.new 9, 3) := by decide +kernel
theorem dX4_init_8 : decode cX4_init 8 = .ok (.dup, 1) := by decide +kernel
theorem dX4_init_9 : decode cX4_init 9 = .ok (.invokespecial 11, 3) := by decide +kernel
theorem dX4_init_12 : decode cX4_init 12 = .ok (.putfield 12, 3) := by decide +kernel
theorem dX4_init_15 : decode cX4_init 15 = .ok (.aload_n 0, 1) := by decide +kernel
theorem dX4_init_16 : decode cX4_init 16 = .ok (.new 16, 3) := by decide +kernel
theorem dX4_init_19 : decode cX4_init 19 = .ok (.dup, 1) := by decide +kernel
theorem dX4_init_20 : decode cX4_init 20 = .ok (.aload_n 0, 1) := by decide +kernel
theorem dX4_init_21 : decode cX4_init 21 = .ok (.getfield 12, 3) := by decide +kernel
theorem dX4_init_24 : decode cX4_init 24 = .ok (.invokespecial 18, 3) := by decide +kernel
theorem dX4_init_27 : decode cX4_init 27 = .ok (.putfield 21, 3) := by decide +kernel
theorem dX4_init_30 : decode cX4_init 30 = .ok (.aload_n 0, 1) := by decide +kernel
theorem dX4_init_31 : decode cX4_init 31 = .ok (.new 25, 3) := by decide +kernel
theorem dX4_init_34 : decode cX4_init 34 = .ok (.dup, 1) := by decide +kernel
theorem dX4_init_35 : decode cX4_init 35 = .ok (.invokespecial 27, 3) := by decide +kernel
theorem dX4_init_38 : decode cX4_init 38 = .ok (.putfield 28, 3) := by decide +kernel
theorem dX4_init_41 : decode cX4_init 41 = .ok (.aload_n 0, 1) := by decide +kernel
theorem dX4_init_42 : decode cX4_init 42 = .ok (.iconst 4, 1) := by decide +kernel
theorem dX4_init_43 : decode cX4_init 43 = .ok (.anewarray 32, 3) := by decide +kernel
theorem dX4_init_46 : decode cX4_init 46 = .ok (.putfield 34, 3) := by decide +kernel
theorem dX4_init_49 : decode cX4_init 49 = .ok (.iconst 0, 1) := by decide +kernel
theorem dX4_init_50 : decode cX4_init 50 = .ok (.istore_n 1, 1) := by decide +kernel
theorem dX4_init_51 : decode cX4_init 51 = .ok (.iload_n 1, 1) := by decide +kernel
theorem dX4_init_52 : decode cX4_init 52 = .ok (.iconst 4, 1) := by decide +kernel
theorem dX4_init_53 : decode cX4_init 53 = .ok (.if_icmp .ge 22, 3) := by decide +kernel
theorem dX4_init_56 : decode cX4_init 56 = .ok (.aload_n 0, 1) := by decide +kernel
theorem dX4_init_57 : decode cX4_init 57 = .ok (.getfield 34, 3) := by decide +kernel
theorem dX4_init_60 : decode cX4_init 60 = .ok (.iload_n 1, 1) := by decide +kernel
theorem dX4_init_61 : decode cX4_init 61 = .ok (.new 32, 3) := by decide +kernel
theorem dX4_init_64 : decode cX4_init 64 = .ok (.dup, 1) := by decide +kernel
theorem dX4_init_65 : decode cX4_init 65 = .ok (.invokespecial 38, 3) := by decide +kernel
theorem dX4_init_68 : decode cX4_init 68 = .ok (.aastore, 1) := by decide +kernel
theorem dX4_init_69 : decode cX4_init 69 = .ok (.iinc 1 1, 3) := by decide +kernel
theorem dX4_init_72 : decode cX4_init 72 = .ok (.goto (-21), 3) := by decide +kernel
theorem dX4_init_75 : decode cX4_init 75 = .ok (.aload_n 0, 1) := by decide +kernel
theorem dX4_init_76 : decode cX4_init 76 = .ok (.bipush 16, 2) := by decide +kernel
theorem dX4_init_78 : decode cX4_init 78 = .ok (.newarray .int, 2) := by decide +kernel
theorem dX4_init_80 : decode cX4_init 80 = .ok (.putfield 39, 3) := by decide +kernel
theorem dX4_init_83 : decode cX4_init 83 = .ok (.return_, 1) := by decide +kernel
set_option maxRecDepth 20000 in
theorem ggX4_login_X4_checkArgument : GoodIn wsX4_login wsX4_checkArgument := goodIn_ca (goodIn_r _ [8, 9, 10] (by decide +kernel) (by decide +kernel)) (goodIn_sub (fun _ h => List.mem_cons_of_mem _ (List.mem_append_right _ h)) (by decide +kernel))
set_option maxRecDepth 20000 in
theorem gX4_login_X4_checkArgument : GoodIn wsX4_login (va_wsS RX4 43 yX4_checkArgument wsX4_checkArgument) := goodIn_app (goodIn_of _ (by decide +kernel)) ggX4_login_X4_checkArgument
set_option maxRecDepth 20000 in
theorem ggX4_login_X3_lastForEver : GoodIn wsX4_login wsX3_lastForEver := goodIn_r _ [14, 15, 16, 64, 65, 66, 67] (by decide +kernel) (by decide +kernel)
set_option maxRecDepth 20000 in
theorem gX4_login_X3_lastForEver_n47 : GoodIn wsX4_login (wsX3_lastForEver) := ggX4_login_X3_lastForEver
set_option maxRecDepth 20000 in
theorem ggX4_login_X4_takeToldBlocks : GoodIn wsX4_login wsX4_takeToldBlocks := goodIn_r _ [20, 4, 2, 21, 22, 23, 24, 25, 26, 27, 28, 29, 30, 31, 32, 33, 34, 35, 36, 37, 7, 38, 39, 40, 41, 42, 43, 44, 48, 49, 50, 51, 52, 68, 53, 54, 55, 56, 64, 65, 66, 67] (by decide +kernel) (by decide +kernel)
set_option maxRecDepth 20000 in
theorem gX4_login_X4_takeToldBlocks : GoodIn wsX4_login (wsV RX4 58 RX4 yX4_takeToldBlocks wsX4_takeToldBlocks) := goodIn_app (goodIn_of _ (by decide +kernel)) ggX4_login_X4_takeToldBlocks
set_option maxRecDepth 20000 in
theorem ggX4_login_X0_untaken : GoodIn wsX4_login wsX0_untaken := goodIn_r _ [47, 25, 68] (by decide +kernel) (by decide +kernel)
set_option maxRecDepth 20000 in
theorem gX4_login_X0_untaken_n61 : GoodIn wsX4_login (wsX0_untaken) := ggX4_login_X0_untaken
theorem dX4_login_0 : decode cX4_login 0 = .ok (.iload_n 1, 1) := by decide +kernel
theorem dX4_login_1 : decode cX4_login 1 = .ok (.bipush 15, 2) := by decide +kernel
theorem dX4_login_3 : decode cX4_login 3 = .ok (.invokestatic 43, 3) := by decide +kernel
theorem dX4_login_6 : decode cX4_login 6 = .ok (.aload_n 0, 1) := by decide +kernel
theorem dX4_login_7 : decode cX4_login 7 = .ok (.getfield 12, 3) := by decide +kernel
theorem dX4_login_10 : decode cX4_login 10 = .ok (.invokevirtual 47, 3) := by decide +kernel
theorem dX4_login_13 : decode cX4_login 13 = .ok (.aload_n 0, 1) := by decide +kernel
theorem dX4_login_14 : decode cX4_login 14 = .ok (.getfield 21, 3) := by decide +kernel
theorem dX4_login_17 : decode cX4_login 17 = .ok (.iload_n 1, 1) := by decide +kernel
theorem dX4_login_18 : decode cX4_login 18 = .ok (.putfield 50, 3) := by decide +kernel
theorem dX4_login_21 : decode cX4_login 21 = .ok (.iconst 0, 1) := by decide +kernel
theorem dX4_login_22 : decode cX4_login 22 = .ok (.istore_n 2, 1) := by decide +kernel
theorem dX4_login_23 : decode cX4_login 23 = .ok (.iload_n 2, 1) := by decide +kernel
theorem dX4_login_24 : decode cX4_login 24 = .ok (.iconst 4, 1) := by decide +kernel
theorem dX4_login_25 : decode cX4_login 25 = .ok (.if_icmp .ge 19, 3) := by decide +kernel
theorem dX4_login_28 : decode cX4_login 28 = .ok (.aload_n 0, 1) := by decide +kernel
theorem dX4_login_29 : decode cX4_login 29 = .ok (.getfield 34, 3) := by decide +kernel
theorem dX4_login_32 : decode cX4_login 32 = .ok (.iload_n 2, 1) := by decide +kernel
theorem dX4_login_33 : decode cX4_login 33 = .ok (.aaload, 1) := by decide +kernel
theorem dX4_login_34 : decode cX4_login 34 = .ok (.iconst 0, 1) := by decide +kernel
theorem dX4_login_35 : decode cX4_login 35 = .ok (.putfield 54, 3) := by decide +kernel
theorem dX4_login_38 : decode cX4_login 38 = .ok (.iinc 2 1, 3) := by decide +kernel
theorem dX4_login_41 : decode cX4_login 41 = .ok (.goto (-18), 3) := by decide +kernel
theorem dX4_login_44 : decode cX4_login 44 = .ok (.aload_n 0, 1) := by decide +kernel
theorem dX4_login_45 : decode cX4_login 45 = .ok (.invokevirtual 58, 3) := by decide +kernel
theorem dX4_login_48 : decode cX4_login 48 = .ok (.aload_n 0, 1) := by decide +kernel
theorem dX4_login_49 : decode cX4_login 49 = .ok (.getfield 28, 3) := by decide +kernel
theorem dX4_login_52 : decode cX4_login 52 = .ok (.invokevirtual 61, 3) := by decide +kernel
theorem dX4_login_55 : decode cX4_login 55 = .ok (.ireturn, 1) := by decide +kernel
set_option maxRecDepth 20000 in
theorem ggX4_power_X4_checkArgument : GoodIn wsX4_power wsX4_checkArgument := goodIn_ca (goodIn_r _ [5, 6, 7] (by decide +kernel) (by decide +kernel)) (goodIn_sub (fun _ h => List.mem_cons_of_mem _ (List.mem_append_right _ h)) (by decide +kernel))
set_option maxRecDepth 20000 in
theorem gX4_power_X4_checkArgument : GoodIn wsX4_power (va_wsS RX4 43 yX4_checkArgument wsX4_checkArgument) := goodIn_app (goodIn_of _ (by decide +kernel)) ggX4_power_X4_checkArgument
set_option maxRecDepth 20000 in
theorem ggX4_power_X3_lastFor : GoodIn wsX4_power wsX3_lastFor := goodIn_r _ [11, 12, 13, 14, 20, 21, 22, 23] (by decide +kernel) (by decide +kernel)
set_option maxRecDepth 20000 in
theorem gX4_power_X3_lastFor_n65 : GoodIn wsX4_power (wsX3_lastFor) := ggX4_power_X3_lastFor
theorem dX4_power_0 : decode cX4_power 0 = .ok (.iload_n 1, 1) := by decide +kernel
theorem dX4_power_1 : decode cX4_power 1 = .ok (.sipush 1000, 3) := by decide +kernel
theorem dX4_power_4 : decode cX4_power 4 = .ok (.invokestatic 43, 3) := by decide +kernel
theorem dX4_power_7 : decode cX4_power 7 = .ok (.aload_n 0, 1) := by decide +kernel
theorem dX4_power_8 : decode cX4_power 8 = .ok (.getfield 12, 3) := by decide +kernel
theorem dX4_power_11 : decode cX4_power 11 = .ok (.iload_n 1, 1) := by decide +kernel
theorem dX4_power_12 : decode cX4_power 12 = .ok (.invokevirtual 65, 3) := by decide +kernel
theorem dX4_power_15 : decode cX4_power 15 = .ok (.return_, 1) := by decide +kernel
set_option maxRecDepth 20000 in
theorem ggX4_name_X4_controlAt : GoodIn wsX4_name wsX4_controlAt := goodIn_ca (goodIn_r _ [5, 6, 7, 8, 4, 9, 10, 11, 19, 20, 21, 22, 23] (by decide +kernel) (by decide +kernel)) (goodIn_sub (fun _ h => List.mem_cons_of_mem _ (List.mem_append_right _ h)) (by decide +kernel))
set_option maxRecDepth 20000 in
theorem gX4_name_X4_controlAt : GoodIn wsX4_name (wsV RX4 69 RX4 yX4_controlAt wsX4_controlAt) := goodIn_app (goodIn_of _ (by decide +kernel)) ggX4_name_X4_controlAt
theorem dX4_name_0 : decode cX4_name 0 = .ok (.aload_n 0, 1) := by decide +kernel
theorem dX4_name_1 : decode cX4_name 1 = .ok (.iload_n 1, 1) := by decide +kernel
theorem dX4_name_2 : decode cX4_name 2 = .ok (.invokevirtual 69, 3) := by decide +kernel
theorem dX4_name_5 : decode cX4_name 5 = .ok (.astore 4, 2) := by decide +kernel
theorem dX4_name_7 : decode cX4_name 7 = .ok (.iconst 0, 1) := by decide +kernel
theorem dX4_name_8 : decode cX4_name 8 = .ok (.istore 5, 2) := by decide +kernel
theorem dX4_name_10 : decode cX4_name 10 = .ok (.iload 5, 2) := by decide +kernel
theorem dX4_name_12 : decode cX4_name 12 = .ok (.bipush 6, 2) := by decide +kernel
theorem dX4_name_14 : decode cX4_name 14 = .ok (.if_icmp .ge 28, 3) := by decide +kernel
theorem dX4_name_17 : decode cX4_name 17 = .ok (.aload 4, 2) := by decide +kernel
theorem dX4_name_19 : decode cX4_name 19 = .ok (.getfield 73, 3) := by decide +kernel
theorem dX4_name_22 : decode cX4_name 22 = .ok (.iload 5, 2) := by decide +kernel
theorem dX4_name_24 : decode cX4_name 24 = .ok (.lload_n 2, 1) := by decide +kernel
theorem dX4_name_25 : decode cX4_name 25 = .ok (.bipush 8, 2) := by decide +kernel
theorem dX4_name_27 : decode cX4_name 27 = .ok (.iload 5, 2) := by decide +kernel
theorem dX4_name_29 : decode cX4_name 29 = .ok (.imul, 1) := by decide +kernel
theorem dX4_name_30 : decode cX4_name 30 = .ok (.lshr, 1) := by decide +kernel
theorem dX4_name_31 : decode cX4_name 31 = .ok (.l2i, 1) := by decide +kernel
theorem dX4_name_32 : decode cX4_name 32 = .ok (.bipush 127, 2) := by decide +kernel
theorem dX4_name_34 : decode cX4_name 34 = .ok (.iand, 1) := by decide +kernel
theorem dX4_name_35 : decode cX4_name 35 = .ok (.iastore, 1) := by decide +kernel
theorem dX4_name_36 : decode cX4_name 36 = .ok (.iinc 5 1, 3) := by decide +kernel
theorem dX4_name_39 : decode cX4_name 39 = .ok (.goto (-29), 3) := by decide +kernel
theorem dX4_name_42 : decode cX4_name 42 = .ok (.aload 4, 2) := by decide +kernel
theorem dX4_name_44 : decode cX4_name 44 = .ok (.iconst 0, 1) := by decide +kernel
theorem dX4_name_45 : decode cX4_name 45 = .ok (.putfield 54, 3) := by decide +kernel
theorem dX4_name_48 : decode cX4_name 48 = .ok (.return_, 1) := by decide +kernel
set_option maxRecDepth 20000 in
theorem ggX4_open_X4_controlAt : GoodIn wsX4_open wsX4_controlAt := goodIn_ca (goodIn_r _ [6, 7, 8, 9, 5, 10, 11, 12, 37, 38, 39, 40, 41] (by decide +kernel) (by decide +kernel)) (goodIn_sub (fun _ h => List.mem_cons_of_mem _ (List.mem_append_right _ h)) (by decide +kernel))
set_option maxRecDepth 20000 in
theorem gX4_open_X4_controlAt : GoodIn wsX4_open (wsV RX4 69 RX4 yX4_controlAt wsX4_controlAt) := goodIn_app (goodIn_of _ (by decide +kernel)) ggX4_open_X4_controlAt
set_option maxRecDepth 20000 in
theorem ggX4_open_X2_firstOfStretch : GoodIn wsX4_open wsX2_firstOfStretch := goodIn_r _ [16, 17, 18, 19, 14, 20, 21, 22, 23, 24, 25, 26, 49, 50, 51, 52, 53, 54, 55, 56, 42, 43, 44, 45, 46, 47, 48] (by decide +kernel) (by decide +kernel)
set_option maxRecDepth 20000 in
theorem gX4_open_X2_firstOfStretch_n76 : GoodIn wsX4_open (wsX2_firstOfStretch) := ggX4_open_X2_firstOfStretch
set_option maxRecDepth 20000 in
theorem ggX4_open_X2_fetchStretch : GoodIn wsX4_open wsX2_fetchStretch := goodIn_r _ [29, 17, 18, 19, 14, 20, 21, 30, 31, 32, 33, 42, 43, 44, 45, 46, 47, 48, 49, 50, 51, 52, 53, 54, 55, 56] (by decide +kernel) (by decide +kernel)
set_option maxRecDepth 20000 in
theorem gX4_open_X2_fetchStretch_n80 : GoodIn wsX4_open (wsX2_fetchStretch) := ggX4_open_X2_fetchStretch
set_option maxRecDepth 20000 in
theorem ggX4_open_X2_isReadOnly : GoodIn wsX4_open wsX2_isReadOnly := goodIn_r _ [36, 17, 18, 19, 14, 20, 21, 49, 50, 51, 52, 53, 54, 55, 56] (by decide +kernel) (by decide +kernel)
set_option maxRecDepth 20000 in
theorem gX4_open_X2_isReadOnly_n84 : GoodIn wsX4_open (wsX2_isReadOnly) := ggX4_open_X2_isReadOnly
theorem dX4_open_0 : decode cX4_open 0 = .ok (.aload_n 0, 1) := by decide +kernel
theorem dX4_open_1 : decode cX4_open 1 = .ok (.iload_n 1, 1) := by decide +kernel
theorem dX4_open_2 : decode cX4_open 2 = .ok (.invokevirtual 69, 3) := by decide +kernel
theorem dX4_open_5 : decode cX4_open 5 = .ok (.astore_n 2, 1) := by decide +kernel
theorem dX4_open_6 : decode cX4_open 6 = .ok (.aload_n 0, 1) := by decide +kernel
theorem dX4_open_7 : decode cX4_open 7 = .ok (.getfield 21, 3) := by decide +kernel
theorem dX4_open_10 : decode cX4_open 10 = .ok (.aload_n 2, 1) := by decide +kernel
theorem dX4_open_11 : decode cX4_open 11 = .ok (.iconst 0, 1) := by decide +kernel
theorem dX4_open_12 : decode cX4_open 12 = .ok (.invokevirtual 76, 3) := by decide +kernel
theorem dX4_open_15 : decode cX4_open 15 = .ok (.istore_n 3, 1) := by decide +kernel
theorem dX4_open_16 : decode cX4_open 16 = .ok (.aload_n 2, 1) := by decide +kernel
theorem dX4_open_17 : decode cX4_open 17 = .ok (.iload_n 3, 1) := by decide +kernel
theorem dX4_open_18 : decode cX4_open 18 = .ok (.iconst (-1), 1) := by decide +kernel
theorem dX4_open_19 : decode cX4_open 19 = .ok (.if_icmp .eq 7, 3) := by decide +kernel
theorem dX4_open_22 : decode cX4_open 22 = .ok (.iconst 1, 1) := by decide +kernel
theorem dX4_open_23 : decode cX4_open 23 = .ok (.goto 4, 3) := by decide +kernel
theorem dX4_open_26 : decode cX4_open 26 = .ok (.iconst 0, 1) := by decide +kernel
theorem dX4_open_27 : decode cX4_open 27 = .ok (.putfield 54, 3) := by decide +kernel
theorem dX4_open_30 : decode cX4_open 30 = .ok (.aload_n 2, 1) := by decide +kernel
theorem dX4_open_31 : decode cX4_open 31 = .ok (.getfield 54, 3) := by decide +kernel
theorem dX4_open_34 : decode cX4_open 34 = .ok (.ifCond .eq 24, 3) := by decide +kernel
theorem dX4_open_37 : decode cX4_open 37 = .ok (.aload_n 0, 1) := by decide +kernel
theorem dX4_open_38 : decode cX4_open 38 = .ok (.getfield 21, 3) := by decide +kernel
theorem dX4_open_41 : decode cX4_open 41 = .ok (.iload_n 3, 1) := by decide +kernel
theorem dX4_open_42 : decode cX4_open 42 = .ok (.aload_n 2, 1) := by decide +kernel
theorem dX4_open_43 : decode cX4_open 43 = .ok (.invokevirtual 80, 3) := by decide +kernel
theorem dX4_open_46 : decode cX4_open 46 = .ok (.aload_n 2, 1) := by decide +kernel
theorem dX4_open_47 : decode cX4_open 47 = .ok (.aload_n 0, 1) := by decide +kernel
theorem dX4_open_48 : decode cX4_open 48 = .ok (.getfield 21, 3) := by decide +kernel
theorem dX4_open_51 : decode cX4_open 51 = .ok (.iload_n 3, 1) := by decide +kernel
theorem dX4_open_52 : decode cX4_open 52 = .ok (.invokevirtual 84, 3) := by decide +kernel
theorem dX4_open_55 : decode cX4_open 55 = .ok (.putfield 88, 3) := by decide +kernel
theorem dX4_open_58 : decode cX4_open 58 = .ok (.iload_n 3, 1) := by decide +kernel
theorem dX4_open_59 : decode cX4_open 59 = .ok (.ireturn, 1) := by decide +kernel
set_option maxRecDepth 20000 in
theorem ggX4_make_X4_controlAt : GoodIn wsX4_make wsX4_controlAt := goodIn_ca (goodIn_r _ [6, 7, 8, 9, 5, 10, 11, 12, 55, 56, 57, 58, 59] (by decide +kernel) (by decide +kernel)) (goodIn_sub (fun _ h => List.mem_cons_of_mem _ (List.mem_append_right _ h)) (by decide +kernel))
set_option maxRecDepth 20000 in
theorem gX4_make_X4_controlAt : GoodIn wsX4_make (wsV RX4 69 RX4 yX4_controlAt wsX4_controlAt) := goodIn_app (goodIn_of _ (by decide +kernel)) ggX4_make_X4_controlAt
set_option maxRecDepth 20000 in
theorem ggX4_make_X2_firstFree : GoodIn wsX4_make wsX2_firstFree := goodIn_r _ [16, 17, 18, 19, 14, 20, 21, 22, 23, 24, 25, 67, 68, 69, 70, 71, 72, 73, 74] (by decide +kernel) (by decide +kernel)
set_option maxRecDepth 20000 in
theorem gX4_make_X2_firstFree_n90 : GoodIn wsX4_make (wsX2_firstFree) := ggX4_make_X2_firstFree
set_option maxRecDepth 20000 in
theorem ggX4_make_X4_makeStretch : GoodIn wsX4_make wsX4_makeStretch := goodIn_r _ [29, 1, 30, 31, 32, 33, 34, 35, 36, 37, 38, 14, 39, 40, 41, 42, 43, 44, 45, 46, 25, 47, 48, 49, 50, 51, 52, 53, 54, 55, 56, 57, 58, 59, 60, 61, 62, 63, 64, 65, 66, 67, 68, 69, 70, 71, 72, 73, 74] (by decide +kernel) (by decide +kernel)
set_option maxRecDepth 20000 in
theorem gX4_make_X4_makeStretch : GoodIn wsX4_make (wsV RX4 93 RX4 yX4_makeStretch wsX4_makeStretch) := goodIn_app (goodIn_of _ (by decide +kernel)) ggX4_make_X4_makeStretch
theorem dX4_make_0 : decode cX4_make 0 = .ok (.aload_n 0, 1) := by decide +kernel
theorem dX4_make_1 : decode cX4_make 1 = .ok (.iload_n 1, 1) := by decide +kernel
theorem dX4_make_2 : decode cX4_make 2 = .ok (.invokevirtual 69, 3) := by decide +kernel
theorem dX4_make_5 : decode cX4_make 5 = .ok (.astore_n 2, 1) := by decide +kernel
theorem dX4_make_6 : decode cX4_make 6 = .ok (.aload_n 0, 1) := by decide +kernel
theorem dX4_make_7 : decode cX4_make 7 = .ok (.getfield 21, 3) := by decide +kernel
theorem dX4_make_10 : decode cX4_make 10 = .ok (.invokevirtual 90, 3) := by decide +kernel
theorem dX4_make_13 : decode cX4_make 13 = .ok (.istore_n 3, 1) := by decide +kernel
theorem dX4_make_14 : decode cX4_make 14 = .ok (.iload_n 3, 1) := by decide +kernel
theorem dX4_make_15 : decode cX4_make 15 = .ok (.iconst (-1), 1) := by decide +kernel
theorem dX4_make_16 : decode cX4_make 16 = .ok (.if_icmp .ne 6, 3) := by decide +kernel
theorem dX4_make_19 : decode cX4_make 19 = .ok (.bipush (-2), 2) := by decide +kernel
theorem dX4_make_21 : decode cX4_make 21 = .ok (.ireturn, 1) := by decide +kernel
theorem dX4_make_22 : decode cX4_make 22 = .ok (.aload_n 2, 1) := by decide +kernel
theorem dX4_make_23 : decode cX4_make 23 = .ok (.iconst 1, 1) := by decide +kernel
theorem dX4_make_24 : decode cX4_make 24 = .ok (.putfield 54, 3) := by decide +kernel
theorem dX4_make_27 : decode cX4_make 27 = .ok (.aload_n 2, 1) := by decide +kernel
theorem dX4_make_28 : decode cX4_make 28 = .ok (.iconst 0, 1) := by decide +kernel
theorem dX4_make_29 : decode cX4_make 29 = .ok (.putfield 88, 3) := by decide +kernel
theorem dX4_make_32 : decode cX4_make 32 = .ok (.aload_n 0, 1) := by decide +kernel
theorem dX4_make_33 : decode cX4_make 33 = .ok (.aload_n 2, 1) := by decide +kernel
theorem dX4_make_34 : decode cX4_make 34 = .ok (.iload_n 3, 1) := by decide +kernel
theorem dX4_make_35 : decode cX4_make 35 = .ok (.iconst 0, 1) := by decide +kernel
theorem dX4_make_36 : decode cX4_make 36 = .ok (.invokevirtual 93, 3) := by decide +kernel
theorem dX4_make_39 : decode cX4_make 39 = .ok (.ifCond .eq 7, 3) := by decide +kernel
theorem dX4_make_42 : decode cX4_make 42 = .ok (.iload_n 3, 1) := by decide +kernel
theorem dX4_make_43 : decode cX4_make 43 = .ok (.goto 5, 3) := by decide +kernel
theorem dX4_make_46 : decode cX4_make 46 = .ok (.bipush (-9), 2) := by decide +kernel
theorem dX4_make_48 : decode cX4_make 48 = .ok (.ireturn, 1) := by decide +kernel
set_option maxRecDepth 20000 in
theorem ggX4_close_X4_controlAt : GoodIn wsX4_close wsX4_controlAt := goodIn_ca (goodIn_r _ [5, 6, 7, 8, 4, 9, 10, 11, 57, 58, 59, 60, 61] (by decide +kernel) (by decide +kernel)) (goodIn_sub (fun _ h => List.mem_cons_of_mem _ (List.mem_append_right _ h)) (by decide +kernel))
set_option maxRecDepth 20000 in
theorem gX4_close_X4_controlAt : GoodIn wsX4_close (wsV RX4 69 RX4 yX4_controlAt wsX4_controlAt) := goodIn_app (goodIn_of _ (by decide +kernel)) ggX4_close_X4_controlAt
set_option maxRecDepth 20000 in
theorem ggX4_close_X4_keepStretch : GoodIn wsX4_close wsX4_keepStretch := goodIn_r _ [15, 16, 17, 18, 19, 20, 21, 22, 23, 24, 25, 26, 27, 28, 29, 30, 31, 32, 33, 34, 35, 36, 37, 38, 39, 40, 41, 42, 43, 44, 45, 46, 47, 48, 49, 57, 58, 59, 60, 61, 50, 51, 52, 53, 54, 55, 56, 62, 63, 64, 65, 66, 67, 68, 69] (by decide +kernel) (by decide +kernel)
set_option maxRecDepth 20000 in
theorem gX4_close_X4_keepStretch : GoodIn wsX4_close (wsV RX4 97 RX4 yX4_keepStretch wsX4_keepStretch) := goodIn_app (goodIn_of _ (by decide +kernel)) ggX4_close_X4_keepStretch
theorem dX4_close_0 : decode cX4_close 0 = .ok (.aload_n 0, 1) := by decide +kernel
theorem dX4_close_1 : decode cX4_close 1 = .ok (.iload_n 1, 1) := by decide +kernel
theorem dX4_close_2 : decode cX4_close 2 = .ok (.invokevirtual 69, 3) := by decide +kernel
theorem dX4_close_5 : decode cX4_close 5 = .ok (.astore_n 2, 1) := by decide +kernel
theorem dX4_close_6 : decode cX4_close 6 = .ok (.aload_n 2, 1) := by decide +kernel
theorem dX4_close_7 : decode cX4_close 7 = .ok (.getfield 54, 3) := by decide +kernel
theorem dX4_close_10 : decode cX4_close 10 = .ok (.ifCond .ne 5, 3) := by decide +kernel
theorem dX4_close_13 : decode cX4_close 13 = .ok (.iconst (-1), 1) := by decide +kernel
theorem dX4_close_14 : decode cX4_close 14 = .ok (.ireturn, 1) := by decide +kernel
theorem dX4_close_15 : decode cX4_close 15 = .ok (.aload_n 2, 1) := by decide +kernel
theorem dX4_close_16 : decode cX4_close 16 = .ok (.iconst 0, 1) := by decide +kernel
theorem dX4_close_17 : decode cX4_close 17 = .ok (.putfield 54, 3) := by decide +kernel
theorem dX4_close_20 : decode cX4_close 20 = .ok (.aload_n 0, 1) := by decide +kernel
theorem dX4_close_21 : decode cX4_close 21 = .ok (.aload_n 2, 1) := by decide +kernel
theorem dX4_close_22 : decode cX4_close 22 = .ok (.invokevirtual 97, 3) := by decide +kernel
theorem dX4_close_25 : decode cX4_close 25 = .ok (.ireturn, 1) := by decide +kernel
set_option maxRecDepth 20000 in
theorem ggX4_erase_X4_controlAt : GoodIn wsX4_erase wsX4_controlAt := goodIn_ca (goodIn_r _ [6, 7, 8, 9, 5, 10, 11, 12, 62, 63, 64, 65, 66] (by decide +kernel) (by decide +kernel)) (goodIn_sub (fun _ h => List.mem_cons_of_mem _ (List.mem_append_right _ h)) (by decide +kernel))
set_option maxRecDepth 20000 in
theorem gX4_erase_X4_controlAt : GoodIn wsX4_erase (wsV RX4 69 RX4 yX4_controlAt wsX4_controlAt) := goodIn_app (goodIn_of _ (by decide +kernel)) ggX4_erase_X4_controlAt
set_option maxRecDepth 20000 in
theorem ggX4_erase_X2_hasReadOnly : GoodIn wsX4_erase wsX2_hasReadOnly := goodIn_r _ [16, 17, 18, 19, 14, 20, 21, 22, 23, 24, 25, 26, 27, 28, 29, 30, 67, 68, 69, 70, 71, 72, 73, 74, 75, 76, 77, 78, 79, 80, 81] (by decide +kernel) (by decide +kernel)
set_option maxRecDepth 20000 in
theorem gX4_erase_X2_hasReadOnly_n101 : GoodIn wsX4_erase (wsX2_hasReadOnly) := ggX4_erase_X2_hasReadOnly
set_option maxRecDepth 20000 in
theorem ggX4_erase_X2_fits : GoodIn wsX4_erase wsX2_fits := goodIn_r _ [29, 30, 21, 22, 23, 14, 24, 25, 67, 68, 69, 70, 75, 76, 77, 78, 79, 80, 81, 71, 72, 73, 74] (by decide +kernel) (by decide +kernel)
set_option maxRecDepth 20000 in
theorem gX4_erase_X2_fits_n105 : GoodIn wsX4_erase (wsX2_fits) := ggX4_erase_X2_fits
set_option maxRecDepth 20000 in
theorem ggX4_erase_X4_giveBackBlocks : GoodIn wsX4_erase wsX4_giveBackBlocks := goodIn_r _ [34, 35, 1, 36, 14, 37, 38, 21, 22, 23, 24, 25, 39, 40, 41, 42, 43, 62, 63, 64, 65, 66, 67, 68, 69, 70, 71, 72, 73, 74, 82] (by decide +kernel) (by decide +kernel)
set_option maxRecDepth 20000 in
theorem gX4_erase_X4_giveBackBlocks : GoodIn wsX4_erase (wsV RX4 109 RX4 yX4_giveBackBlocks wsX4_giveBackBlocks) := goodIn_app (goodIn_of _ (by decide +kernel)) ggX4_erase_X4_giveBackBlocks
set_option maxRecDepth 20000 in
theorem ggX4_erase_X2_freeEntry : GoodIn wsX4_erase wsX2_freeEntry := goodIn_r _ [46, 25, 47, 48, 49, 50, 51, 52, 53, 54, 55, 56, 57, 58, 67, 68, 69, 70, 71, 72, 73, 74] (by decide +kernel) (by decide +kernel)
set_option maxRecDepth 20000 in
theorem gX4_erase_X2_freeEntry_n112 : GoodIn wsX4_erase (wsX2_freeEntry) := ggX4_erase_X2_freeEntry
set_option maxRecDepth 20000 in
theorem ggX4_erase_X4_howMany : GoodIn wsX4_erase wsX4_howMany := goodIn_r _ [61] (by decide +kernel) (by decide +kernel)
set_option maxRecDepth 20000 in
theorem gX4_erase_X4_howMany : GoodIn wsX4_erase (va_wsS RX4 115 yX4_howMany wsX4_howMany) := goodIn_app (goodIn_of _ (by decide +kernel)) ggX4_erase_X4_howMany
theorem dX4_erase_0 : decode cX4_erase 0 = .ok (.aload_n 0, 1) := by decide +kernel
theorem dX4_erase_1 : decode cX4_erase 1 = .ok (.iload_n 1, 1) := by decide +kernel
theorem dX4_erase_2 : decode cX4_erase 2 = .ok (.invokevirtual 69, 3) := by decide +kernel
theorem dX4_erase_5 : decode cX4_erase 5 = .ok (.astore_n 2, 1) := by decide +kernel
theorem dX4_erase_6 : decode cX4_erase 6 = .ok (.aload_n 0, 1) := by decide +kernel
theorem dX4_erase_7 : decode cX4_erase 7 = .ok (.getfield 21, 3) := by decide +kernel
theorem dX4_erase_10 : decode cX4_erase 10 = .ok (.aload_n 2, 1) := by decide +kernel
theorem dX4_erase_11 : decode cX4_erase 11 = .ok (.invokevirtual 101, 3) := by decide +kernel
theorem dX4_erase_14 : decode cX4_erase 14 = .ok (.ifCond .eq 6, 3) := by decide +kernel
theorem dX4_erase_17 : decode cX4_erase 17 = .ok (.bipush (-3), 2) := by decide +kernel
theorem dX4_erase_19 : decode cX4_erase 19 = .ok (.ireturn, 1) := by decide +kernel
theorem dX4_erase_20 : decode cX4_erase 20 = .ok (.iconst 0, 1) := by decide +kernel
theorem dX4_erase_21 : decode cX4_erase 21 = .ok (.istore_n 3, 1) := by decide +kernel
theorem dX4_erase_22 : decode cX4_erase 22 = .ok (.iconst 0, 1) := by decide +kernel
theorem dX4_erase_23 : decode cX4_erase 23 = .ok (.istore 4, 2) := by decide +kernel
theorem dX4_erase_25 : decode cX4_erase 25 = .ok (.iload 4, 2) := by decide +kernel
theorem dX4_erase_27 : decode cX4_erase 27 = .ok (.bipush 32, 2) := by decide +kernel
theorem dX4_erase_29 : decode cX4_erase 29 = .ok (.if_icmp .ge 46, 3) := by decide +kernel
theorem dX4_erase_32 : decode cX4_erase 32 = .ok (.aload_n 0, 1) := by decide +kernel
theorem dX4_erase_33 : decode cX4_erase 33 = .ok (.getfield 21, 3) := by decide +kernel
theorem dX4_erase_36 : decode cX4_erase 36 = .ok (.iload 4, 2) := by decide +kernel
theorem dX4_erase_38 : decode cX4_erase 38 = .ok (.aload_n 2, 1) := by decide +kernel
theorem dX4_erase_39 : decode cX4_erase 39 = .ok (.invokevirtual 105, 3) := by decide +kernel
theorem dX4_erase_42 : decode cX4_erase 42 = .ok (.ifCond .eq 27, 3) := by decide +kernel
theorem dX4_erase_45 : decode cX4_erase 45 = .ok (.aload_n 0, 1) := by decide +kernel
theorem dX4_erase_46 : decode cX4_erase 46 = .ok (.iload 4, 2) := by decide +kernel
theorem dX4_erase_48 : decode cX4_erase 48 = .ok (.invokevirtual 109, 3) := by decide +kernel
theorem dX4_erase_51 : decode cX4_erase 51 = .ok (.aload_n 0, 1) := by decide +kernel
theorem dX4_erase_52 : decode cX4_erase 52 = .ok (.getfield 21, 3) := by decide +kernel
theorem dX4_erase_55 : decode cX4_erase 55 = .ok (.iload 4, 2) := by decide +kernel
theorem dX4_erase_57 : decode cX4_erase 57 = .ok (.invokevirtual 112, 3) := by decide +kernel
theorem dX4_erase_60 : decode cX4_erase 60 = .ok (.ifCond .ne 6, 3) := by decide +kernel
theorem dX4_erase_63 : decode cX4_erase 63 = .ok (.bipush (-9), 2) := by decide +kernel
theorem dX4_erase_65 : decode cX4_erase 65 = .ok (.ireturn, 1) := by decide +kernel
theorem dX4_erase_66 : decode cX4_erase 66 = .ok (.iinc 3 1, 3) := by decide +kernel
theorem dX4_erase_69 : decode cX4_erase 69 = .ok (.iinc 4 1, 3) := by decide +kernel
theorem dX4_erase_72 : decode cX4_erase 72 = .ok (.goto (-47), 3) := by decide +kernel
theorem dX4_erase_75 : decode cX4_erase 75 = .ok (.iload_n 3, 1) := by decide +kernel
theorem dX4_erase_76 : decode cX4_erase 76 = .ok (.invokestatic 115, 3) := by decide +kernel
theorem dX4_erase_79 : decode cX4_erase 79 = .ok (.ireturn, 1) := by decide +kernel
set_option maxRecDepth 20000 in
theorem ggX4_rename_X4_controlAt : GoodIn wsX4_rename wsX4_controlAt := goodIn_ca (goodIn_r _ [6, 7, 8, 9, 5, 10, 11, 12, 49, 50, 51, 52, 53] (by decide +kernel) (by decide +kernel)) (goodIn_sub (fun _ h => List.mem_cons_of_mem _ (List.mem_append_right _ h)) (by decide +kernel))
set_option maxRecDepth 20000 in
theorem gX4_rename_X4_controlAt : GoodIn wsX4_rename (wsV RX4 69 RX4 yX4_controlAt wsX4_controlAt) := goodIn_app (goodIn_of _ (by decide +kernel)) ggX4_rename_X4_controlAt
set_option maxRecDepth 20000 in
theorem ggX4_rename_X2_hasReadOnly : GoodIn wsX4_rename wsX2_hasReadOnly := goodIn_r _ [16, 17, 18, 19, 14, 20, 21, 22, 23, 24, 25, 26, 27, 28, 29, 30, 54, 55, 56, 57, 58, 59, 60, 61, 62, 63, 64, 65, 66, 67, 68] (by decide +kernel) (by decide +kernel)
set_option maxRecDepth 20000 in
theorem gX4_rename_X2_hasReadOnly_n101 : GoodIn wsX4_rename (wsX2_hasReadOnly) := ggX4_rename_X2_hasReadOnly
set_option maxRecDepth 20000 in
theorem ggX4_rename_X2_fits : GoodIn wsX4_rename wsX2_fits := goodIn_r _ [29, 30, 21, 22, 23, 14, 24, 25, 54, 55, 56, 57, 62, 63, 64, 65, 66, 67, 68, 58, 59, 60, 61] (by decide +kernel) (by decide +kernel)
set_option maxRecDepth 20000 in
theorem gX4_rename_X2_fits_n105 : GoodIn wsX4_rename (wsX2_fits) := ggX4_rename_X2_fits
set_option maxRecDepth 20000 in
theorem ggX4_rename_X2_nameEntry : GoodIn wsX4_rename wsX2_nameEntry := goodIn_r _ [33, 25, 34, 35, 36, 37, 38, 39, 40, 41, 42, 43, 44, 45, 54, 55, 56, 57, 62, 63, 64, 65, 66, 67, 68, 58, 59, 60, 61] (by decide +kernel) (by decide +kernel)
set_option maxRecDepth 20000 in
theorem gX4_rename_X2_nameEntry_n119 : GoodIn wsX4_rename (wsX2_nameEntry) := ggX4_rename_X2_nameEntry
set_option maxRecDepth 20000 in
theorem ggX4_rename_X4_howMany : GoodIn wsX4_rename wsX4_howMany := goodIn_r _ [48] (by decide +kernel) (by decide +kernel)
set_option maxRecDepth 20000 in
theorem gX4_rename_X4_howMany : GoodIn wsX4_rename (va_wsS RX4 115 yX4_howMany wsX4_howMany) := goodIn_app (goodIn_of _ (by decide +kernel)) ggX4_rename_X4_howMany
theorem dX4_rename_0 : decode cX4_rename 0 = .ok (.aload_n 0, 1) := by decide +kernel
theorem dX4_rename_1 : decode cX4_rename 1 = .ok (.iload_n 1, 1) := by decide +kernel
theorem dX4_rename_2 : decode cX4_rename 2 = .ok (.invokevirtual 69, 3) := by decide +kernel
theorem dX4_rename_5 : decode cX4_rename 5 = .ok (.astore_n 3, 1) := by decide +kernel
theorem dX4_rename_6 : decode cX4_rename 6 = .ok (.aload_n 0, 1) := by decide +kernel
theorem dX4_rename_7 : decode cX4_rename 7 = .ok (.iload_n 2, 1) := by decide +kernel
theorem dX4_rename_8 : decode cX4_rename 8 = .ok (.invokevirtual 69, 3) := by decide +kernel
theorem dX4_rename_11 : decode cX4_rename 11 = .ok (.astore 4, 2) := by decide +kernel
theorem dX4_rename_13 : decode cX4_rename 13 = .ok (.aload_n 0, 1) := by decide +kernel
theorem dX4_rename_14 : decode cX4_rename 14 = .ok (.getfield 21, 3) := by decide +kernel
theorem dX4_rename_17 : decode cX4_rename 17 = .ok (.aload_n 3, 1) := by decide +kernel
theorem dX4_rename_18 : decode cX4_rename 18 = .ok (.invokevirtual 101, 3) := by decide +kernel
theorem dX4_rename_21 : decode cX4_rename 21 = .ok (.ifCond .eq 6, 3) := by decide +kernel
theorem dX4_rename_24 : decode cX4_rename 24 = .ok (.bipush (-3), 2) := by decide +kernel
theorem dX4_rename_26 : decode cX4_rename 26 = .ok (.ireturn, 1) := by decide +kernel
theorem dX4_rename_27 : decode cX4_rename 27 = .ok (.iconst 0, 1) := by decide +kernel
theorem dX4_rename_28 : decode cX4_rename 28 = .ok (.istore 5, 2) := by decide +kernel
theorem dX4_rename_30 : decode cX4_rename 30 = .ok (.iconst 0, 1) := by decide +kernel
theorem dX4_rename_31 : decode cX4_rename 31 = .ok (.istore 6, 2) := by decide +kernel
theorem dX4_rename_33 : decode cX4_rename 33 = .ok (.iload 6, 2) := by decide +kernel
theorem dX4_rename_35 : decode cX4_rename 35 = .ok (.bipush 32, 2) := by decide +kernel
theorem dX4_rename_37 : decode cX4_rename 37 = .ok (.if_icmp .ge 42, 3) := by decide +kernel
theorem dX4_rename_40 : decode cX4_rename 40 = .ok (.aload_n 0, 1) := by decide +kernel
theorem dX4_rename_41 : decode cX4_rename 41 = .ok (.getfield 21, 3) := by decide +kernel
theorem dX4_rename_44 : decode cX4_rename 44 = .ok (.iload 6, 2) := by decide +kernel
theorem dX4_rename_46 : decode cX4_rename 46 = .ok (.aload_n 3, 1) := by decide +kernel
theorem dX4_rename_47 : decode cX4_rename 47 = .ok (.invokevirtual 105, 3) := by decide +kernel
theorem dX4_rename_50 : decode cX4_rename 50 = .ok (.ifCond .eq 23, 3) := by decide +kernel
theorem dX4_rename_53 : decode cX4_rename 53 = .ok (.aload_n 0, 1) := by decide +kernel
theorem dX4_rename_54 : decode cX4_rename 54 = .ok (.getfield 21, 3) := by decide +kernel
theorem dX4_rename_57 : decode cX4_rename 57 = .ok (.iload 6, 2) := by decide +kernel
theorem dX4_rename_59 : decode cX4_rename 59 = .ok (.aload 4, 2) := by decide +kernel
theorem dX4_rename_61 : decode cX4_rename 61 = .ok (.invokevirtual 119, 3) := by decide +kernel
theorem dX4_rename_64 : decode cX4_rename 64 = .ok (.ifCond .ne 6, 3) := by decide +kernel
theorem dX4_rename_67 : decode cX4_rename 67 = .ok (.bipush (-9), 2) := by decide +kernel
theorem dX4_rename_69 : decode cX4_rename 69 = .ok (.ireturn, 1) := by decide +kernel
theorem dX4_rename_70 : decode cX4_rename 70 = .ok (.iinc 5 1, 3) := by decide +kernel
theorem dX4_rename_73 : decode cX4_rename 73 = .ok (.iinc 6 1, 3) := by decide +kernel
theorem dX4_rename_76 : decode cX4_rename 76 = .ok (.goto (-43), 3) := by decide +kernel
theorem dX4_rename_79 : decode cX4_rename 79 = .ok (.iload 5, 2) := by decide +kernel
theorem dX4_rename_81 : decode cX4_rename 81 = .ok (.invokestatic 115, 3) := by decide +kernel
theorem dX4_rename_84 : decode cX4_rename 84 = .ok (.ireturn, 1) := by decide +kernel
set_option maxRecDepth 20000 in
theorem ggX4_guard_X4_controlAt : GoodIn wsX4_guard wsX4_controlAt := goodIn_ca (goodIn_r _ [6, 7, 8, 9, 5, 10, 11, 12, 41, 42, 43, 44, 45] (by decide +kernel) (by decide +kernel)) (goodIn_sub (fun _ h => List.mem_cons_of_mem _ (List.mem_append_right _ h)) (by decide +kernel))
set_option maxRecDepth 20000 in
theorem gX4_guard_X4_controlAt : GoodIn wsX4_guard (wsV RX4 69 RX4 yX4_controlAt wsX4_controlAt) := goodIn_app (goodIn_of _ (by decide +kernel)) ggX4_guard_X4_controlAt
set_option maxRecDepth 20000 in
theorem ggX4_guard_X2_fits : GoodIn wsX4_guard wsX2_fits := goodIn_r _ [16, 17, 18, 19, 20, 14, 21, 22, 46, 47, 48, 49, 50, 51, 52, 53, 54, 55, 56, 57, 58, 59, 60] (by decide +kernel) (by decide +kernel)
set_option maxRecDepth 20000 in
theorem gX4_guard_X2_fits_n105 : GoodIn wsX4_guard (wsX2_fits) := ggX4_guard_X2_fits
set_option maxRecDepth 20000 in
theorem ggX4_guard_X2_guardEntry : GoodIn wsX4_guard wsX2_guardEntry := goodIn_r _ [25, 22, 26, 27, 28, 29, 30, 31, 32, 33, 34, 35, 36, 37, 46, 47, 48, 49, 57, 58, 59, 60] (by decide +kernel) (by decide +kernel)
set_option maxRecDepth 20000 in
theorem gX4_guard_X2_guardEntry_n122 : GoodIn wsX4_guard (wsX2_guardEntry) := ggX4_guard_X2_guardEntry
set_option maxRecDepth 20000 in
theorem ggX4_guard_X4_howMany : GoodIn wsX4_guard wsX4_howMany := goodIn_r _ [40] (by decide +kernel) (by decide +kernel)
set_option maxRecDepth 20000 in
theorem gX4_guard_X4_howMany : GoodIn wsX4_guard (va_wsS RX4 115 yX4_howMany wsX4_howMany) := goodIn_app (goodIn_of _ (by decide +kernel)) ggX4_guard_X4_howMany
theorem dX4_guard_0 : decode cX4_guard 0 = .ok (.aload_n 0, 1) := by decide +kernel
theorem dX4_guard_1 : decode cX4_guard 1 = .ok (.iload_n 1, 1) := by decide +kernel
theorem dX4_guard_2 : decode cX4_guard 2 = .ok (.invokevirtual 69, 3) := by decide +kernel
theorem dX4_guard_5 : decode cX4_guard 5 = .ok (.astore_n 3, 1) := by decide +kernel
theorem dX4_guard_6 : decode cX4_guard 6 = .ok (.iconst 0, 1) := by decide +kernel
theorem dX4_guard_7 : decode cX4_guard 7 = .ok (.istore 4, 2) := by decide +kernel
theorem dX4_guard_9 : decode cX4_guard 9 = .ok (.iconst 0, 1) := by decide +kernel
theorem dX4_guard_10 : decode cX4_guard 10 = .ok (.istore 5, 2) := by decide +kernel
theorem dX4_guard_12 : decode cX4_guard 12 = .ok (.iload 5, 2) := by decide +kernel
theorem dX4_guard_14 : decode cX4_guard 14 = .ok (.bipush 32, 2) := by decide +kernel
theorem dX4_guard_16 : decode cX4_guard 16 = .ok (.if_icmp .ge 41, 3) := by decide +kernel
theorem dX4_guard_19 : decode cX4_guard 19 = .ok (.aload_n 0, 1) := by decide +kernel
theorem dX4_guard_20 : decode cX4_guard 20 = .ok (.getfield 21, 3) := by decide +kernel
theorem dX4_guard_23 : decode cX4_guard 23 = .ok (.iload 5, 2) := by decide +kernel
theorem dX4_guard_25 : decode cX4_guard 25 = .ok (.aload_n 3, 1) := by decide +kernel
theorem dX4_guard_26 : decode cX4_guard 26 = .ok (.invokevirtual 105, 3) := by decide +kernel
theorem dX4_guard_29 : decode cX4_guard 29 = .ok (.ifCond .eq 22, 3) := by decide +kernel
theorem dX4_guard_32 : decode cX4_guard 32 = .ok (.aload_n 0, 1) := by decide +kernel
theorem dX4_guard_33 : decode cX4_guard 33 = .ok (.getfield 21, 3) := by decide +kernel
theorem dX4_guard_36 : decode cX4_guard 36 = .ok (.iload 5, 2) := by decide +kernel
theorem dX4_guard_38 : decode cX4_guard 38 = .ok (.iload_n 2, 1) := by decide +kernel
theorem dX4_guard_39 : decode cX4_guard 39 = .ok (.invokevirtual 122, 3) := by decide +kernel
theorem dX4_guard_42 : decode cX4_guard 42 = .ok (.ifCond .ne 6, 3) := by decide +kernel
theorem dX4_guard_45 : decode cX4_guard 45 = .ok (.bipush (-9), 2) := by decide +kernel
theorem dX4_guard_47 : decode cX4_guard 47 = .ok (.ireturn, 1) := by decide +kernel
theorem dX4_guard_48 : decode cX4_guard 48 = .ok (.iinc 4 1, 3) := by decide +kernel
theorem dX4_guard_51 : decode cX4_guard 51 = .ok (.iinc 5 1, 3) := by decide +kernel
theorem dX4_guard_54 : decode cX4_guard 54 = .ok (.goto (-42), 3) := by decide +kernel
theorem dX4_guard_57 : decode cX4_guard 57 = .ok (.iload 4, 2) := by decide +kernel
theorem dX4_guard_59 : decode cX4_guard 59 = .ok (.invokestatic 115, 3) := by decide +kernel
theorem dX4_guard_62 : decode cX4_guard 62 = .ok (.ireturn, 1) := by decide +kernel
set_option maxRecDepth 20000 in
theorem ggX4_search_X4_controlAt : GoodIn wsX4_search wsX4_controlAt := goodIn_ca (goodIn_r _ [6, 7, 8, 9, 5, 10, 11, 12, 32, 33, 34, 35, 36] (by decide +kernel) (by decide +kernel)) (goodIn_sub (fun _ h => List.mem_cons_of_mem _ (List.mem_append_left _ (List.mem_append_right _ h))) (by decide +kernel))
set_option maxRecDepth 20000 in
theorem gX4_search_X4_controlAt : GoodIn wsX4_search (wsV RX4 69 RX4 yX4_controlAt wsX4_controlAt) := goodIn_app (goodIn_of _ (by decide +kernel)) ggX4_search_X4_controlAt
set_option maxRecDepth 20000 in
theorem ggX4_search_X4_checkArgument : GoodIn wsX4_search wsX4_checkArgument := goodIn_ca (goodIn_r _ [15, 16, 17] (by decide +kernel) (by decide +kernel)) (goodIn_sub (fun _ h => List.mem_cons_of_mem _ (List.mem_append_right _ h)) (by decide +kernel))
set_option maxRecDepth 20000 in
theorem gX4_search_X4_checkArgument : GoodIn wsX4_search (va_wsS RX4 43 yX4_checkArgument wsX4_checkArgument) := goodIn_app (goodIn_of _ (by decide +kernel)) ggX4_search_X4_checkArgument
set_option maxRecDepth 20000 in
theorem ggX4_search_X2_firstFrom : GoodIn wsX4_search wsX2_firstFrom := goodIn_r _ [21, 22, 23, 24, 19, 25, 26, 27, 28, 29, 30, 31, 37, 38, 39, 40, 41, 42, 43, 44, 45, 46, 47, 48, 49, 50, 51] (by decide +kernel) (by decide +kernel)
set_option maxRecDepth 20000 in
theorem gX4_search_X2_firstFrom_n126 : GoodIn wsX4_search (wsX2_firstFrom) := ggX4_search_X2_firstFrom
theorem dX4_search_0 : decode cX4_search 0 = .ok (.aload_n 0, 1) := by decide +kernel
theorem dX4_search_1 : decode cX4_search 1 = .ok (.iload_n 1, 1) := by decide +kernel
theorem dX4_search_2 : decode cX4_search 2 = .ok (.invokevirtual 69, 3) := by decide +kernel
theorem dX4_search_5 : decode cX4_search 5 = .ok (.astore_n 3, 1) := by decide +kernel
theorem dX4_search_6 : decode cX4_search 6 = .ok (.iload_n 2, 1) := by decide +kernel
theorem dX4_search_7 : decode cX4_search 7 = .ok (.bipush 31, 2) := by decide +kernel
theorem dX4_search_9 : decode cX4_search 9 = .ok (.invokestatic 43, 3) := by decide +kernel
theorem dX4_search_12 : decode cX4_search 12 = .ok (.aload_n 0, 1) := by decide +kernel
theorem dX4_search_13 : decode cX4_search 13 = .ok (.getfield 21, 3) := by decide +kernel
theorem dX4_search_16 : decode cX4_search 16 = .ok (.aload_n 3, 1) := by decide +kernel
theorem dX4_search_17 : decode cX4_search 17 = .ok (.iload_n 2, 1) := by decide +kernel
theorem dX4_search_18 : decode cX4_search 18 = .ok (.invokevirtual 126, 3) := by decide +kernel
theorem dX4_search_21 : decode cX4_search 21 = .ok (.ireturn, 1) := by decide +kernel
set_option maxRecDepth 20000 in
theorem ggX4_read_X4_controlAt : GoodIn wsX4_read wsX4_controlAt := goodIn_ca (goodIn_r _ [5, 6, 7, 8, 4, 9, 10, 11, 118, 119, 120, 121, 122] (by decide +kernel) (by decide +kernel)) (goodIn_sub (fun _ h => List.mem_cons_of_mem _ (List.mem_append_right _ h)) (by decide +kernel))
set_option maxRecDepth 20000 in
theorem gX4_read_X4_controlAt : GoodIn wsX4_read (wsV RX4 69 RX4 yX4_controlAt wsX4_controlAt) := goodIn_app (goodIn_of _ (by decide +kernel)) ggX4_read_X4_controlAt
set_option maxRecDepth 20000 in
theorem ggX4_read_X4_moveNext : GoodIn wsX4_read wsX4_moveNext := goodIn_r _ [15, 16, 17, 18, 4, 19, 20, 21, 22, 23, 24, 25, 26, 27, 28, 29, 30, 31, 32, 33, 34, 35, 36, 37, 38, 39, 40, 41, 42, 43, 44, 45, 46, 47, 48, 49, 50, 51, 52, 53, 54, 55, 56, 57, 58, 59, 60, 61, 62, 63, 64, 65, 66, 67, 68, 69, 70, 71, 72, 73, 74, 75, 76, 77, 78, 79, 80, 81, 82, 83, 84, 85, 86, 87, 88, 89, 90, 91, 92, 93, 94, 95, 96, 97, 98, 99, 100, 101, 102, 103, 104, 105, 106, 107, 108, 109, 110, 111, 112, 113, 114, 115, 116, 117, 123, 124, 125, 126, 127, 128, 129, 118, 119, 120, 121, 122, 130, 131, 132, 133, 134, 135, 136, 137, 138] (by decide +kernel) (by decide +kernel)
set_option maxRecDepth 20000 in
theorem gX4_read_X4_moveNext : GoodIn wsX4_read (wsV RX4 129 RX4 yX4_moveNext wsX4_moveNext) := goodIn_app (goodIn_of _ (by decide +kernel)) ggX4_read_X4_moveNext
theorem dX4_read_0 : decode cX4_read 0 = .ok (.aload_n 0, 1) := by decide +kernel
theorem dX4_read_1 : decode cX4_read 1 = .ok (.aload_n 0, 1) := by decide +kernel
theorem dX4_read_2 : decode cX4_read 2 = .ok (.iload_n 1, 1) := by decide +kernel
theorem dX4_read_3 : decode cX4_read 3 = .ok (.invokevirtual 69, 3) := by decide +kernel
theorem dX4_read_6 : decode cX4_read 6 = .ok (.iconst 0, 1) := by decide +kernel
theorem dX4_read_7 : decode cX4_read 7 = .ok (.invokevirtual 129, 3) := by decide +kernel
theorem dX4_read_10 : decode cX4_read 10 = .ok (.ireturn, 1) := by decide +kernel
set_option maxRecDepth 20000 in
theorem ggX4_write_X4_controlAt : GoodIn wsX4_write wsX4_controlAt := goodIn_ca (goodIn_r _ [5, 6, 7, 8, 4, 9, 10, 11, 118, 119, 120, 121, 122] (by decide +kernel) (by decide +kernel)) (goodIn_sub (fun _ h => List.mem_cons_of_mem _ (List.mem_append_right _ h)) (by decide +kernel))
set_option maxRecDepth 20000 in
theorem gX4_write_X4_controlAt : GoodIn wsX4_write (wsV RX4 69 RX4 yX4_controlAt wsX4_controlAt) := goodIn_app (goodIn_of _ (by decide +kernel)) ggX4_write_X4_controlAt
set_option maxRecDepth 20000 in
theorem ggX4_write_X4_moveNext : GoodIn wsX4_write wsX4_moveNext := goodIn_r _ [15, 16, 17, 18, 4, 19, 20, 21, 22, 23, 24, 25, 26, 27, 28, 29, 30, 31, 32, 33, 34, 35, 36, 37, 38, 39, 40, 41, 42, 43, 44, 45, 46, 47, 48, 49, 50, 51, 52, 53, 54, 55, 56, 57, 58, 59, 60, 61, 62, 63, 64, 65, 66, 67, 68, 69, 70, 71, 72, 73, 74, 75, 76, 77, 78, 79, 80, 81, 82, 83, 84, 85, 86, 87, 88, 89, 90, 91, 92, 93, 94, 95, 96, 97, 98, 99, 100, 101, 102, 103, 104, 105, 106, 107, 108, 109, 110, 111, 112, 113, 114, 115, 116, 117, 123, 124, 125, 126, 127, 128, 129, 118, 119, 120, 121, 122, 130, 131, 132, 133, 134, 135, 136, 137, 138] (by decide +kernel) (by decide +kernel)
set_option maxRecDepth 20000 in
theorem gX4_write_X4_moveNext : GoodIn wsX4_write (wsV RX4 129 RX4 yX4_moveNext wsX4_moveNext) := goodIn_app (goodIn_of _ (by decide +kernel)) ggX4_write_X4_moveNext
theorem dX4_write_0 : decode cX4_write 0 = .ok (.aload_n 0, 1) := by decide +kernel
theorem dX4_write_1 : decode cX4_write 1 = .ok (.aload_n 0, 1) := by decide +kernel
theorem dX4_write_2 : decode cX4_write 2 = .ok (.iload_n 1, 1) := by decide +kernel
theorem dX4_write_3 : decode cX4_write 3 = .ok (.invokevirtual 69, 3) := by decide +kernel
theorem dX4_write_6 : decode cX4_write 6 = .ok (.iconst 1, 1) := by decide +kernel
theorem dX4_write_7 : decode cX4_write 7 = .ok (.invokevirtual 129, 3) := by decide +kernel
theorem dX4_write_10 : decode cX4_write 10 = .ok (.ireturn, 1) := by decide +kernel
set_option maxRecDepth 20000 in
theorem ggX4_at_X4_controlAt : GoodIn wsX4_at wsX4_controlAt := goodIn_ca (goodIn_r _ [6, 7, 8, 9, 5, 10, 11, 12, 127, 128, 129, 130, 131] (by decide +kernel) (by decide +kernel)) (goodIn_sub (fun _ h => List.mem_cons_of_mem _ (List.mem_append_left _ (List.mem_append_right _ h))) (by decide +kernel))
set_option maxRecDepth 20000 in
theorem gX4_at_X4_controlAt : GoodIn wsX4_at (wsV RX4 69 RX4 yX4_controlAt wsX4_controlAt) := goodIn_app (goodIn_of _ (by decide +kernel)) ggX4_at_X4_controlAt
set_option maxRecDepth 20000 in
theorem ggX4_at_X4_checkArgument : GoodIn wsX4_at wsX4_checkArgument := goodIn_ca (goodIn_r _ [15, 16, 17] (by decide +kernel) (by decide +kernel)) (goodIn_sub (fun _ h => List.mem_cons_of_mem _ (List.mem_append_right _ h)) (by decide +kernel))
set_option maxRecDepth 20000 in
theorem gX4_at_X4_checkArgument : GoodIn wsX4_at (va_wsS RX4 43 yX4_checkArgument wsX4_checkArgument) := goodIn_app (goodIn_of _ (by decide +kernel)) ggX4_at_X4_checkArgument
set_option maxRecDepth 20000 in
theorem ggX4_at_X4_goTo : GoodIn wsX4_at wsX4_goTo := goodIn_r _ [21, 22, 23, 24, 25, 5, 26, 27, 28, 29, 30, 31, 32, 33, 34, 35, 36, 37, 38, 39, 40, 41, 42, 43, 44, 45, 46, 47, 48, 49, 50, 51, 52, 53, 54, 55, 56, 57, 58, 59, 60, 61, 62, 63, 64, 65, 66, 67, 68, 69, 70, 71, 72, 73, 74, 75, 76, 77, 78, 79, 80, 81, 82, 83, 84, 85, 86, 87, 88, 89, 90, 91, 92, 120, 121, 122, 123, 124, 125, 126, 127, 128, 129, 130, 131, 132, 133, 134, 135, 136, 137, 138, 139] (by decide +kernel) (by decide +kernel)
set_option maxRecDepth 20000 in
theorem gX4_at_X4_goTo : GoodIn wsX4_at (wsV RX4 134 RX4 yX4_goTo wsX4_goTo) := goodIn_app (goodIn_of _ (by decide +kernel)) ggX4_at_X4_goTo
set_option maxRecDepth 20000 in
theorem ggX4_at_X4_moveRecord : GoodIn wsX4_at wsX4_moveRecord := goodIn_r _ [96, 97, 98, 99, 5, 100, 101, 102, 103, 104, 105, 106, 107, 108, 109, 110, 111, 112, 113, 83, 114, 115, 89, 54, 46, 55, 56, 57, 58, 49, 59, 116, 117, 118, 119, 45, 47, 48, 120, 121, 122, 123, 124, 125, 126, 127, 128, 129, 130, 131, 140, 136, 137, 138, 139] (by decide +kernel) (by decide +kernel)
set_option maxRecDepth 20000 in
theorem gX4_at_X4_moveRecord : GoodIn wsX4_at (wsV RX4 138 RX4 yX4_moveRecord wsX4_moveRecord) := goodIn_app (goodIn_of _ (by decide +kernel)) ggX4_at_X4_moveRecord
theorem dX4_at_0 : decode cX4_at 0 = .ok (.aload_n 0, 1) := by decide +kernel
theorem dX4_at_1 : decode cX4_at 1 = .ok (.iload_n 1, 1) := by decide +kernel
theorem dX4_at_2 : decode cX4_at 2 = .ok (.invokevirtual 69, 3) := by decide +kernel
theorem dX4_at_5 : decode cX4_at 5 = .ok (.astore 4, 2) := by decide +kernel
theorem dX4_at_7 : decode cX4_at 7 = .ok (.iload_n 2, 1) := by decide +kernel
theorem dX4_at_8 : decode cX4_at 8 = .ok (.ldc 133, 2) := by decide +kernel
theorem dX4_at_10 : decode cX4_at 10 = .ok (.invokestatic 43, 3) := by decide +kernel
theorem dX4_at_13 : decode cX4_at 13 = .ok (.aload 4, 2) := by decide +kernel
theorem dX4_at_15 : decode cX4_at 15 = .ok (.getfield 54, 3) := by decide +kernel
theorem dX4_at_18 : decode cX4_at 18 = .ok (.ifCond .ne 5, 3) := by decide +kernel
theorem dX4_at_21 : decode cX4_at 21 = .ok (.iconst (-1), 1) := by decide +kernel
theorem dX4_at_22 : decode cX4_at 22 = .ok (.ireturn, 1) := by decide +kernel
theorem dX4_at_23 : decode cX4_at 23 = .ok (.aload_n 0, 1) := by decide +kernel
theorem dX4_at_24 : decode cX4_at 24 = .ok (.aload 4, 2) := by decide +kernel
theorem dX4_at_26 : decode cX4_at 26 = .ok (.iload_n 2, 1) := by decide +kernel
theorem dX4_at_27 : decode cX4_at 27 = .ok (.bipush 28, 2) := by decide +kernel
theorem dX4_at_29 : decode cX4_at 29 = .ok (.idiv, 1) := by decide +kernel
theorem dX4_at_30 : decode cX4_at 30 = .ok (.iload_n 3, 1) := by decide +kernel
theorem dX4_at_31 : decode cX4_at 31 = .ok (.invokevirtual 134, 3) := by decide +kernel
theorem dX4_at_34 : decode cX4_at 34 = .ok (.istore 5, 2) := by decide +kernel
theorem dX4_at_36 : decode cX4_at 36 = .ok (.iload 5, 2) := by decide +kernel
theorem dX4_at_38 : decode cX4_at 38 = .ok (.ifCond .eq 6, 3) := by decide +kernel
theorem dX4_at_41 : decode cX4_at 41 = .ok (.iload 5, 2) := by decide +kernel
theorem dX4_at_43 : decode cX4_at 43 = .ok (.ireturn, 1) := by decide +kernel
theorem dX4_at_44 : decode cX4_at 44 = .ok (.iload_n 2, 1) := by decide +kernel
theorem dX4_at_45 : decode cX4_at 45 = .ok (.bipush 28, 2) := by decide +kernel
theorem dX4_at_47 : decode cX4_at 47 = .ok (.irem, 1) := by decide +kernel
theorem dX4_at_48 : decode cX4_at 48 = .ok (.istore 6, 2) := by decide +kernel
theorem dX4_at_50 : decode cX4_at 50 = .ok (.aload_n 0, 1) := by decide +kernel
theorem dX4_at_51 : decode cX4_at 51 = .ok (.aload 4, 2) := by decide +kernel
theorem dX4_at_53 : decode cX4_at 53 = .ok (.iload 6, 2) := by decide +kernel
theorem dX4_at_55 : decode cX4_at 55 = .ok (.iload_n 3, 1) := by decide +kernel
theorem dX4_at_56 : decode cX4_at 56 = .ok (.invokevirtual 138, 3) := by decide +kernel
theorem dX4_at_59 : decode cX4_at 59 = .ok (.istore 7, 2) := by decide +kernel
theorem dX4_at_61 : decode cX4_at 61 = .ok (.iload 7, 2) := by decide +kernel
theorem dX4_at_63 : decode cX4_at 63 = .ok (.ifCond .ne 10, 3) := by decide +kernel
theorem dX4_at_66 : decode cX4_at 66 = .ok (.aload 4, 2) := by decide +kernel
theorem dX4_at_68 : decode cX4_at 68 = .ok (.iload 6, 2) := by decide +kernel
theorem dX4_at_70 : decode cX4_at 70 = .ok (.putfield 141, 3) := by decide +kernel
theorem dX4_at_73 : decode cX4_at 73 = .ok (.iload 7, 2) := by decide +kernel
theorem dX4_at_75 : decode cX4_at 75 = .ok (.ireturn, 1) := by decide +kernel
set_option maxRecDepth 20000 in
theorem ggX4_size_X4_controlAt : GoodIn wsX4_size wsX4_controlAt := goodIn_ca (goodIn_r _ [6, 7, 8, 9, 5, 10, 11, 12, 31, 32, 33, 34, 35] (by decide +kernel) (by decide +kernel)) (goodIn_sub (fun _ h => List.mem_cons_of_mem _ (List.mem_append_right _ h)) (by decide +kernel))
set_option maxRecDepth 20000 in
theorem gX4_size_X4_controlAt : GoodIn wsX4_size (wsV RX4 69 RX4 yX4_controlAt wsX4_controlAt) := goodIn_app (goodIn_of _ (by decide +kernel)) ggX4_size_X4_controlAt
set_option maxRecDepth 20000 in
theorem ggX4_size_X2_greatestEnd : GoodIn wsX4_size wsX2_greatestEnd := goodIn_r _ [16, 17, 18, 19, 20, 21, 22, 23, 14, 24, 25, 26, 27, 28, 29, 30, 36, 37, 38, 39, 40, 41, 42, 43, 44, 45, 46, 47, 48, 49, 50] (by decide +kernel) (by decide +kernel)
set_option maxRecDepth 20000 in
theorem gX4_size_X2_greatestEnd_n144 : GoodIn wsX4_size (wsX2_greatestEnd) := ggX4_size_X2_greatestEnd
theorem dX4_size_0 : decode cX4_size 0 = .ok (.aload_n 0, 1) := by decide +kernel
theorem dX4_size_1 : decode cX4_size 1 = .ok (.getfield 21, 3) := by decide +kernel
theorem dX4_size_4 : decode cX4_size 4 = .ok (.aload_n 0, 1) := by decide +kernel
theorem dX4_size_5 : decode cX4_size 5 = .ok (.iload_n 1, 1) := by decide +kernel
theorem dX4_size_6 : decode cX4_size 6 = .ok (.invokevirtual 69, 3) := by decide +kernel
theorem dX4_size_9 : decode cX4_size 9 = .ok (.invokevirtual 144, 3) := by decide +kernel
theorem dX4_size_12 : decode cX4_size 12 = .ok (.ireturn, 1) := by decide +kernel
set_option maxRecDepth 20000 in
theorem ggX4_has_X4_controlAt : GoodIn wsX4_has wsX4_controlAt := goodIn_ca (goodIn_r _ [5, 6, 7, 8, 4, 9, 10, 11, 24, 25, 26, 27, 28] (by decide +kernel) (by decide +kernel)) (goodIn_sub (fun _ h => List.mem_cons_of_mem _ (List.mem_append_left _ (List.mem_append_right _ h))) (by decide +kernel))
set_option maxRecDepth 20000 in
theorem gX4_has_X4_controlAt : GoodIn wsX4_has (wsV RX4 69 RX4 yX4_controlAt wsX4_controlAt) := goodIn_app (goodIn_of _ (by decide +kernel)) ggX4_has_X4_controlAt
set_option maxRecDepth 20000 in
theorem ggX4_has_X4_checkArgument : GoodIn wsX4_has wsX4_checkArgument := goodIn_ca (goodIn_r _ [14, 15, 16] (by decide +kernel) (by decide +kernel)) (goodIn_sub (fun _ h => List.mem_cons_of_mem _ (List.mem_append_right _ h)) (by decide +kernel))
set_option maxRecDepth 20000 in
theorem gX4_has_X4_checkArgument : GoodIn wsX4_has (va_wsS RX4 43 yX4_checkArgument wsX4_checkArgument) := goodIn_app (goodIn_of _ (by decide +kernel)) ggX4_has_X4_checkArgument
theorem dX4_has_0 : decode cX4_has 0 = .ok (.aload_n 0, 1) := by decide +kernel
theorem dX4_has_1 : decode cX4_has 1 = .ok (.iload_n 1, 1) := by decide +kernel
theorem dX4_has_2 : decode cX4_has 2 = .ok (.invokevirtual 69, 3) := by decide +kernel
theorem dX4_has_5 : decode cX4_has 5 = .ok (.astore_n 3, 1) := by decide +kernel
theorem dX4_has_6 : decode cX4_has 6 = .ok (.iload_n 2, 1) := by decide +kernel
theorem dX4_has_7 : decode cX4_has 7 = .ok (.bipush 10, 2) := by decide +kernel
theorem dX4_has_9 : decode cX4_has 9 = .ok (.invokestatic 43, 3) := by decide +kernel
theorem dX4_has_12 : decode cX4_has 12 = .ok (.aload_n 3, 1) := by decide +kernel
theorem dX4_has_13 : decode cX4_has 13 = .ok (.getfield 54, 3) := by decide +kernel
theorem dX4_has_16 : decode cX4_has 16 = .ok (.ifCond .ne 5, 3) := by decide +kernel
theorem dX4_has_19 : decode cX4_has 19 = .ok (.iconst 0, 1) := by decide +kernel
theorem dX4_has_20 : decode cX4_has 20 = .ok (.ireturn, 1) := by decide +kernel
theorem dX4_has_21 : decode cX4_has 21 = .ok (.iload_n 2, 1) := by decide +kernel
theorem dX4_has_22 : decode cX4_has 22 = .ok (.tableswitch 47 0 3 #[30, 32, 37, 42], 30) := by decide +kernel
theorem dX4_has_52 : decode cX4_has 52 = .ok (.iconst 1, 1) := by decide +kernel
theorem dX4_has_53 : decode cX4_has 53 = .ok (.ireturn, 1) := by decide +kernel
theorem dX4_has_54 : decode cX4_has 54 = .ok (.aload_n 3, 1) := by decide +kernel
theorem dX4_has_55 : decode cX4_has 55 = .ok (.getfield 147, 3) := by decide +kernel
theorem dX4_has_58 : decode cX4_has 58 = .ok (.ireturn, 1) := by decide +kernel
theorem dX4_has_59 : decode cX4_has 59 = .ok (.aload_n 3, 1) := by decide +kernel
theorem dX4_has_60 : decode cX4_has 60 = .ok (.getfield 150, 3) := by decide +kernel
theorem dX4_has_63 : decode cX4_has 63 = .ok (.ireturn, 1) := by decide +kernel
theorem dX4_has_64 : decode cX4_has 64 = .ok (.aload_n 3, 1) := by decide +kernel
theorem dX4_has_65 : decode cX4_has 65 = .ok (.getfield 141, 3) := by decide +kernel
theorem dX4_has_68 : decode cX4_has 68 = .ok (.ireturn, 1) := by decide +kernel
theorem dX4_has_69 : decode cX4_has 69 = .ok (.aload_n 3, 1) := by decide +kernel
theorem dX4_has_70 : decode cX4_has 70 = .ok (.getfield 153, 3) := by decide +kernel
theorem dX4_has_73 : decode cX4_has 73 = .ok (.iload_n 2, 1) := by decide +kernel
theorem dX4_has_74 : decode cX4_has 74 = .ok (.iconst 4, 1) := by decide +kernel
theorem dX4_has_75 : decode cX4_has 75 = .ok (.isub, 1) := by decide +kernel
theorem dX4_has_76 : decode cX4_has 76 = .ok (.iaload, 1) := by decide +kernel
theorem dX4_has_77 : decode cX4_has 77 = .ok (.ireturn, 1) := by decide +kernel
set_option maxRecDepth 20000 in
theorem ggX4_set_X4_checkIndex : GoodIn wsX4_set wsX4_checkIndex := goodIn_ca (goodIn_r _ [5, 6, 7] (by decide +kernel) (by decide +kernel)) (goodIn_sub (fun _ h => List.mem_cons_of_mem _ (List.mem_append_left _ (List.mem_append_right _ h))) (by decide +kernel))
set_option maxRecDepth 20000 in
theorem gX4_set_X4_checkIndex : GoodIn wsX4_set (va_wsS RX4 156 yX4_checkIndex wsX4_checkIndex) := goodIn_app (goodIn_of _ (by decide +kernel)) ggX4_set_X4_checkIndex
set_option maxRecDepth 20000 in
theorem ggX4_set_X4_checkArgument : GoodIn wsX4_set wsX4_checkArgument := goodIn_ca (goodIn_r _ [10, 11, 12] (by decide +kernel) (by decide +kernel)) (goodIn_sub (fun _ h => List.mem_cons_of_mem _ (List.mem_append_right _ h)) (by decide +kernel))
set_option maxRecDepth 20000 in
theorem gX4_set_X4_checkArgument : GoodIn wsX4_set (va_wsS RX4 43 yX4_checkArgument wsX4_checkArgument) := goodIn_app (goodIn_of _ (by decide +kernel)) ggX4_set_X4_checkArgument
theorem dX4_set_0 : decode cX4_set 0 = .ok (.iload_n 1, 1) := by decide +kernel
theorem dX4_set_1 : decode cX4_set 1 = .ok (.bipush 16, 2) := by decide +kernel
theorem dX4_set_3 : decode cX4_set 3 = .ok (.invokestatic 156, 3) := by decide +kernel
theorem dX4_set_6 : decode cX4_set 6 = .ok (.iload_n 2, 1) := by decide +kernel
theorem dX4_set_7 : decode cX4_set 7 = .ok (.sipush 255, 3) := by decide +kernel
theorem dX4_set_10 : decode cX4_set 10 = .ok (.invokestatic 43, 3) := by decide +kernel
theorem dX4_set_13 : decode cX4_set 13 = .ok (.aload_n 0, 1) := by decide +kernel
theorem dX4_set_14 : decode cX4_set 14 = .ok (.getfield 39, 3) := by decide +kernel
theorem dX4_set_17 : decode cX4_set 17 = .ok (.iload_n 1, 1) := by decide +kernel
theorem dX4_set_18 : decode cX4_set 18 = .ok (.iaload, 1) := by decide +kernel
theorem dX4_set_19 : decode cX4_set 19 = .ok (.istore_n 3, 1) := by decide +kernel
theorem dX4_set_20 : decode cX4_set 20 = .ok (.aload_n 0, 1) := by decide +kernel
theorem dX4_set_21 : decode cX4_set 21 = .ok (.getfield 39, 3) := by decide +kernel
theorem dX4_set_24 : decode cX4_set 24 = .ok (.iload_n 1, 1) := by decide +kernel
theorem dX4_set_25 : decode cX4_set 25 = .ok (.iload_n 2, 1) := by decide +kernel
theorem dX4_set_26 : decode cX4_set 26 = .ok (.iastore, 1) := by decide +kernel
theorem dX4_set_27 : decode cX4_set 27 = .ok (.iload_n 3, 1) := by decide +kernel
theorem dX4_set_28 : decode cX4_set 28 = .ok (.ireturn, 1) := by decide +kernel
set_option maxRecDepth 20000 in
theorem ggX4_buffer_X4_checkIndex : GoodIn wsX4_buffer wsX4_checkIndex := goodIn_ca (goodIn_r _ [5, 6, 7] (by decide +kernel) (by decide +kernel)) (goodIn_sub (fun _ h => List.mem_cons_of_mem _ (List.mem_append_right _ h)) (by decide +kernel))
set_option maxRecDepth 20000 in
theorem gX4_buffer_X4_checkIndex : GoodIn wsX4_buffer (va_wsS RX4 156 yX4_checkIndex wsX4_checkIndex) := goodIn_app (goodIn_of _ (by decide +kernel)) ggX4_buffer_X4_checkIndex
theorem dX4_buffer_0 : decode cX4_buffer 0 = .ok (.iload_n 1, 1) := by decide +kernel
theorem dX4_buffer_1 : decode cX4_buffer 1 = .ok (.iconst 2, 1) := by decide +kernel
theorem dX4_buffer_2 : decode cX4_buffer 2 = .ok (.invokestatic 156, 3) := by decide +kernel
theorem dX4_buffer_5 : decode cX4_buffer 5 = .ok (.lconst 0, 1) := by decide +kernel
theorem dX4_buffer_6 : decode cX4_buffer 6 = .ok (.lstore_n 2, 1) := by decide +kernel
theorem dX4_buffer_7 : decode cX4_buffer 7 = .ok (.bipush 7, 2) := by decide +kernel
theorem dX4_buffer_9 : decode cX4_buffer 9 = .ok (.istore 4, 2) := by decide +kernel
theorem dX4_buffer_11 : decode cX4_buffer 11 = .ok (.iload 4, 2) := by decide +kernel
theorem dX4_buffer_13 : decode cX4_buffer 13 = .ok (.ifCond .lt 28, 3) := by decide +kernel
theorem dX4_buffer_16 : decode cX4_buffer 16 = .ok (.lload_n 2, 1) := by decide +kernel
theorem dX4_buffer_17 : decode cX4_buffer 17 = .ok (.bipush 8, 2) := by decide +kernel
theorem dX4_buffer_19 : decode cX4_buffer 19 = .ok (.lshl, 1) := by decide +kernel
theorem dX4_buffer_20 : decode cX4_buffer 20 = .ok (.aload_n 0, 1) := by decide +kernel
theorem dX4_buffer_21 : decode cX4_buffer 21 = .ok (.getfield 39, 3) := by decide +kernel
theorem dX4_buffer_24 : decode cX4_buffer 24 = .ok (.bipush 8, 2) := by decide +kernel
theorem dX4_buffer_26 : decode cX4_buffer 26 = .ok (.iload_n 1, 1) := by decide +kernel
theorem dX4_buffer_27 : decode cX4_buffer 27 = .ok (.imul, 1) := by decide +kernel
theorem dX4_buffer_28 : decode cX4_buffer 28 = .ok (.iload 4, 2) := by decide +kernel
theorem dX4_buffer_30 : decode cX4_buffer 30 = .ok (.iadd, 1) := by decide +kernel
theorem dX4_buffer_31 : decode cX4_buffer 31 = .ok (.iaload, 1) := by decide +kernel
theorem dX4_buffer_32 : decode cX4_buffer 32 = .ok (.i2l, 1) := by decide +kernel
theorem dX4_buffer_33 : decode cX4_buffer 33 = .ok (.lor, 1) := by decide +kernel
theorem dX4_buffer_34 : decode cX4_buffer 34 = .ok (.lstore_n 2, 1) := by decide +kernel
theorem dX4_buffer_35 : decode cX4_buffer 35 = .ok (.iinc 4 (-1), 3) := by decide +kernel
theorem dX4_buffer_38 : decode cX4_buffer 38 = .ok (.goto (-27), 3) := by decide +kernel
theorem dX4_buffer_41 : decode cX4_buffer 41 = .ok (.lload_n 2, 1) := by decide +kernel
theorem dX4_buffer_42 : decode cX4_buffer 42 = .ok (.lreturn, 1) := by decide +kernel
set_option maxRecDepth 20000 in
theorem ggX4_disk_X4_checkIndex : GoodIn wsX4_disk wsX4_checkIndex := goodIn_ca (goodIn_r _ [5, 6, 7] (by decide +kernel) (by decide +kernel)) (goodIn_sub (fun _ h => List.mem_cons_of_mem _ (List.mem_append_right _ h)) (by decide +kernel))
set_option maxRecDepth 20000 in
theorem gX4_disk_X4_checkIndex : GoodIn wsX4_disk (va_wsS RX4 156 yX4_checkIndex wsX4_checkIndex) := goodIn_app (goodIn_of _ (by decide +kernel)) ggX4_disk_X4_checkIndex
theorem dX4_disk_0 : decode cX4_disk 0 = .ok (.iload_n 1, 1) := by decide +kernel
theorem dX4_disk_1 : decode cX4_disk 1 = .ok (.sipush 4096, 3) := by decide +kernel
theorem dX4_disk_4 : decode cX4_disk 4 = .ok (.invokestatic 156, 3) := by decide +kernel
theorem dX4_disk_7 : decode cX4_disk 7 = .ok (.aload_n 0, 1) := by decide +kernel
theorem dX4_disk_8 : decode cX4_disk 8 = .ok (.getfield 12, 3) := by decide +kernel
theorem dX4_disk_11 : decode cX4_disk 11 = .ok (.getfield 159, 3) := by decide +kernel
theorem dX4_disk_14 : decode cX4_disk 14 = .ok (.iload_n 1, 1) := by decide +kernel
theorem dX4_disk_15 : decode cX4_disk 15 = .ok (.iaload, 1) := by decide +kernel
theorem dX4_disk_16 : decode cX4_disk 16 = .ok (.ireturn, 1) := by decide +kernel
set_option maxRecDepth 20000 in
theorem ggX4_spoil_X4_checkIndex : GoodIn wsX4_spoil wsX4_checkIndex := goodIn_ca (goodIn_r _ [5, 6, 7] (by decide +kernel) (by decide +kernel)) (goodIn_sub (fun _ h => List.mem_cons_of_mem _ (List.mem_append_left _ (List.mem_append_right _ h))) (by decide +kernel))
set_option maxRecDepth 20000 in
theorem gX4_spoil_X4_checkIndex : GoodIn wsX4_spoil (va_wsS RX4 156 yX4_checkIndex wsX4_checkIndex) := goodIn_app (goodIn_of _ (by decide +kernel)) ggX4_spoil_X4_checkIndex
set_option maxRecDepth 20000 in
theorem ggX4_spoil_X4_checkArgument : GoodIn wsX4_spoil wsX4_checkArgument := goodIn_ca (goodIn_r _ [10, 11, 12] (by decide +kernel) (by decide +kernel)) (goodIn_sub (fun _ h => List.mem_cons_of_mem _ (List.mem_append_right _ h)) (by decide +kernel))
set_option maxRecDepth 20000 in
theorem gX4_spoil_X4_checkArgument : GoodIn wsX4_spoil (va_wsS RX4 43 yX4_checkArgument wsX4_checkArgument) := goodIn_app (goodIn_of _ (by decide +kernel)) ggX4_spoil_X4_checkArgument
theorem dX4_spoil_0 : decode cX4_spoil 0 = .ok (.iload_n 1, 1) := by decide +kernel
theorem dX4_spoil_1 : decode cX4_spoil 1 = .ok (.sipush 4096, 3) := by decide +kernel
theorem dX4_spoil_4 : decode cX4_spoil 4 = .ok (.invokestatic 156, 3) := by decide +kernel
theorem dX4_spoil_7 : decode cX4_spoil 7 = .ok (.iload_n 2, 1) := by decide +kernel
theorem dX4_spoil_8 : decode cX4_spoil 8 = .ok (.sipush 255, 3) := by decide +kernel
theorem dX4_spoil_11 : decode cX4_spoil 11 = .ok (.invokestatic 43, 3) := by decide +kernel
theorem dX4_spoil_14 : decode cX4_spoil 14 = .ok (.aload_n 0, 1) := by decide +kernel
theorem dX4_spoil_15 : decode cX4_spoil 15 = .ok (.getfield 12, 3) := by decide +kernel
theorem dX4_spoil_18 : decode cX4_spoil 18 = .ok (.getfield 159, 3) := by decide +kernel
theorem dX4_spoil_21 : decode cX4_spoil 21 = .ok (.iload_n 1, 1) := by decide +kernel
theorem dX4_spoil_22 : decode cX4_spoil 22 = .ok (.iload_n 2, 1) := by decide +kernel
theorem dX4_spoil_23 : decode cX4_spoil 23 = .ok (.iastore, 1) := by decide +kernel
theorem dX4_spoil_24 : decode cX4_spoil 24 = .ok (.return_, 1) := by decide +kernel
set_option maxRecDepth 20000 in
theorem ggX4_told_X4_checkArgument : GoodIn wsX4_told wsX4_checkArgument := goodIn_ca (goodIn_r _ [7, 8, 9] (by decide +kernel) (by decide +kernel)) (goodIn_sub (fun _ h => List.mem_cons_of_mem _ (List.mem_append_right _ h)) (by decide +kernel))
set_option maxRecDepth 20000 in
theorem gX4_told_X4_checkArgument : GoodIn wsX4_told (va_wsS RX4 43 yX4_checkArgument wsX4_checkArgument) := goodIn_app (goodIn_of _ (by decide +kernel)) ggX4_told_X4_checkArgument
set_option maxRecDepth 20000 in
theorem ggX4_told_X0_untaken : GoodIn wsX4_told wsX0_untaken := goodIn_r _ [13, 14, 53] (by decide +kernel) (by decide +kernel)
set_option maxRecDepth 20000 in
theorem gX4_told_X0_untaken_n61 : GoodIn wsX4_told (wsX0_untaken) := ggX4_told_X0_untaken
set_option maxRecDepth 20000 in
theorem ggX4_told_X2_blocksToldTwice : GoodIn wsX4_told wsX2_blocksToldTwice := goodIn_r _ [18, 19, 20, 21, 22, 16, 23, 24, 25, 26, 27, 28, 29, 30, 31, 32, 33, 34, 35, 36, 37, 38, 39, 40, 54, 55, 56, 57, 49, 50, 51, 52] (by decide +kernel) (by decide +kernel)
set_option maxRecDepth 20000 in
theorem gX4_told_X2_blocksToldTwice_n162 : GoodIn wsX4_told (wsX2_blocksToldTwice) := ggX4_told_X2_blocksToldTwice
set_option maxRecDepth 20000 in
theorem ggX4_told_X2_freeEntries : GoodIn wsX4_told wsX2_freeEntries := goodIn_r _ [43, 24, 25, 26, 16, 27, 28, 29, 30, 31, 32, 54, 55, 56, 57, 49, 50, 51, 52] (by decide +kernel) (by decide +kernel)
set_option maxRecDepth 20000 in
theorem gX4_told_X2_freeEntries_n165 : GoodIn wsX4_told (wsX2_freeEntries) := ggX4_told_X2_freeEntries
theorem dX4_told_0 : decode cX4_told 0 = .ok (.iload_n 1, 1) := by decide +kernel
theorem dX4_told_1 : decode cX4_told 1 = .ok (.iconst 3, 1) := by decide +kernel
theorem dX4_told_2 : decode cX4_told 2 = .ok (.invokestatic 43, 3) := by decide +kernel
theorem dX4_told_5 : decode cX4_told 5 = .ok (.iload_n 1, 1) := by decide +kernel
theorem dX4_told_6 : decode cX4_told 6 = .ok (.tableswitch 50 0 2 #[26, 34, 42], 26) := by decide +kernel
theorem dX4_told_32 : decode cX4_told 32 = .ok (.aload_n 0, 1) := by decide +kernel
theorem dX4_told_33 : decode cX4_told 33 = .ok (.getfield 28, 3) := by decide +kernel
theorem dX4_told_36 : decode cX4_told 36 = .ok (.invokevirtual 61, 3) := by decide +kernel
theorem dX4_told_39 : decode cX4_told 39 = .ok (.ireturn, 1) := by decide +kernel
theorem dX4_told_40 : decode cX4_told 40 = .ok (.aload_n 0, 1) := by decide +kernel
theorem dX4_told_41 : decode cX4_told 41 = .ok (.getfield 21, 3) := by decide +kernel
theorem dX4_told_44 : decode cX4_told 44 = .ok (.invokevirtual 162, 3) := by decide +kernel
theorem dX4_told_47 : decode cX4_told 47 = .ok (.ireturn, 1) := by decide +kernel
theorem dX4_told_48 : decode cX4_told 48 = .ok (.aload_n 0, 1) := by decide +kernel
theorem dX4_told_49 : decode cX4_told 49 = .ok (.getfield 21, 3) := by decide +kernel
theorem dX4_told_52 : decode cX4_told 52 = .ok (.invokevirtual 165, 3) := by decide +kernel
theorem dX4_told_55 : decode cX4_told 55 = .ok (.ireturn, 1) := by decide +kernel
theorem dX4_told_56 : decode cX4_told 56 = .ok (.aload_n 0, 1) := by decide +kernel
theorem dX4_told_57 : decode cX4_told 57 = .ok (.getfield 12, 3) := by decide +kernel
theorem dX4_told_60 : decode cX4_told 60 = .ok (.getfield 168, 3) := by decide +kernel
theorem dX4_told_63 : decode cX4_told 63 = .ok (.ireturn, 1) := by decide +kernel
set_option maxRecDepth 20000 in
theorem ggX4_controlAt_X4_checkIndex : GoodIn wsX4_controlAt wsX4_checkIndex := goodIn_ca (goodIn_r _ [5, 6, 7] (by decide +kernel) (by decide +kernel)) (goodIn_sub (fun _ h => List.mem_cons_of_mem _ (List.mem_append_right _ h)) (by decide +kernel))
set_option maxRecDepth 20000 in
theorem gX4_controlAt_X4_checkIndex : GoodIn wsX4_controlAt (va_wsS RX4 156 yX4_checkIndex wsX4_checkIndex) := goodIn_app (goodIn_of _ (by decide +kernel)) ggX4_controlAt_X4_checkIndex
theorem dX4_controlAt_0 : decode cX4_controlAt 0 = .ok (.iload_n 1, 1) := by decide +kernel
theorem dX4_controlAt_1 : decode cX4_controlAt 1 = .ok (.iconst 4, 1) := by decide +kernel
theorem dX4_controlAt_2 : decode cX4_controlAt 2 = .ok (.invokestatic 156, 3) := by decide +kernel
theorem dX4_controlAt_5 : decode cX4_controlAt 5 = .ok (.aload_n 0, 1) := by decide +kernel
theorem dX4_controlAt_6 : decode cX4_controlAt 6 = .ok (.getfield 34, 3) := by decide +kernel
theorem dX4_controlAt_9 : decode cX4_controlAt 9 = .ok (.iload_n 1, 1) := by decide +kernel
theorem dX4_controlAt_10 : decode cX4_controlAt 10 = .ok (.aaload, 1) := by decide +kernel
theorem dX4_controlAt_11 : decode cX4_controlAt 11 = .ok (.areturn, 1) := by decide +kernel
theorem dX4_checkIndex_0 : decode cX4_checkIndex 0 = .ok (.iload_n 0, 1) := by decide +kernel
theorem dX4_checkIndex_1 : decode cX4_checkIndex 1 = .ok (.ifCond .lt 8, 3) := by decide +kernel
theorem dX4_checkIndex_4 : decode cX4_checkIndex 4 = .ok (.iload_n 0, 1) := by decide +kernel
theorem dX4_checkIndex_5 : decode cX4_checkIndex 5 = .ok (.iload_n 1, 1) := by decide +kernel
theorem dX4_checkIndex_6 : decode cX4_checkIndex 6 = .ok (.if_icmp .lt 11, 3) := by decide +kernel
theorem dX4_checkIndex_9 : decode cX4_checkIndex 9 = .ok (.new 171, 3) := by decide +kernel
theorem dX4_checkIndex_12 : decode cX4_checkIndex 12 = .ok (.dup, 1) := by decide +kernel
theorem dX4_checkIndex_13 : decode cX4_checkIndex 13 = .ok (.invokespecial 173, 3) := by decide +kernel
theorem dX4_checkIndex_16 : decode cX4_checkIndex 16 = .ok (.athrow, 1) := by decide +kernel
theorem dX4_checkIndex_17 : decode cX4_checkIndex 17 = .ok (.return_, 1) := by decide +kernel
theorem dX4_checkArgument_0 : decode cX4_checkArgument 0 = .ok (.iload_n 0, 1) := by decide +kernel
theorem dX4_checkArgument_1 : decode cX4_checkArgument 1 = .ok (.ifCond .lt 8, 3) := by decide +kernel
theorem dX4_checkArgument_4 : decode cX4_checkArgument 4 = .ok (.iload_n 0, 1) := by decide +kernel
theorem dX4_checkArgument_5 : decode cX4_checkArgument 5 = .ok (.iload_n 1, 1) := by decide +kernel
theorem dX4_checkArgument_6 : decode cX4_checkArgument 6 = .ok (.if_icmp .le 11, 3) := by decide +kernel
theorem dX4_checkArgument_9 : decode cX4_checkArgument 9 = .ok (.new 174, 3) := by decide +kernel
theorem dX4_checkArgument_12 : decode cX4_checkArgument 12 = .ok (.dup, 1) := by decide +kernel
theorem dX4_checkArgument_13 : decode cX4_checkArgument 13 = .ok (.invokespecial 176, 3) := by decide +kernel
theorem dX4_checkArgument_16 : decode cX4_checkArgument 16 = .ok (.athrow, 1) := by decide +kernel
theorem dX4_checkArgument_17 : decode cX4_checkArgument 17 = .ok (.return_, 1) := by decide +kernel
theorem dX4_howMany_0 : decode cX4_howMany 0 = .ok (.iload_n 0, 1) := by decide +kernel
theorem dX4_howMany_1 : decode cX4_howMany 1 = .ok (.ifCond .ne 7, 3) := by decide +kernel
theorem dX4_howMany_4 : decode cX4_howMany 4 = .ok (.iconst (-1), 1) := by decide +kernel
theorem dX4_howMany_5 : decode cX4_howMany 5 = .ok (.goto 4, 3) := by decide +kernel
theorem dX4_howMany_8 : decode cX4_howMany 8 = .ok (.iload_n 0, 1) := by decide +kernel
theorem dX4_howMany_9 : decode cX4_howMany 9 = .ok (.ireturn, 1) := by decide +kernel
set_option maxRecDepth 20000 in
theorem ggX4_takeToldBlocks_X0_clear : GoodIn wsX4_takeToldBlocks wsX0_clear := goodIn_r _ [6, 7, 33] (by decide +kernel) (by decide +kernel)
set_option maxRecDepth 20000 in
theorem gX4_takeToldBlocks_X0_clear_n177 : GoodIn wsX4_takeToldBlocks (wsX0_clear) := ggX4_takeToldBlocks_X0_clear
set_option maxRecDepth 20000 in
theorem ggX4_takeToldBlocks_X2_isFree : GoodIn wsX4_takeToldBlocks wsX2_isFree := goodIn_r _ [11, 12, 13, 14, 9, 15, 16, 34, 35, 36, 37, 38, 39, 40, 41] (by decide +kernel) (by decide +kernel)
set_option maxRecDepth 20000 in
theorem gX4_takeToldBlocks_X2_isFree_n180 : GoodIn wsX4_takeToldBlocks (wsX2_isFree) := ggX4_takeToldBlocks_X2_isFree
set_option maxRecDepth 20000 in
theorem ggX4_takeToldBlocks_X4_takeBlocks : GoodIn wsX4_takeToldBlocks wsX4_takeBlocks := goodIn_r _ [21, 1, 2, 22, 9, 23, 24, 12, 13, 14, 15, 16, 25, 4, 26, 27, 7, 28, 29, 30, 31, 32, 34, 35, 36, 37, 38, 39, 40, 41, 33] (by decide +kernel) (by decide +kernel)
set_option maxRecDepth 20000 in
theorem gX4_takeToldBlocks_X4_takeBlocks : GoodIn wsX4_takeToldBlocks (wsV RX4 183 RX4 yX4_takeBlocks wsX4_takeBlocks) := goodIn_app (goodIn_of _ (by decide +kernel)) ggX4_takeToldBlocks_X4_takeBlocks
theorem dX4_takeToldBlocks_0 : decode cX4_takeToldBlocks 0 = .ok (.aload_n 0, 1) := by decide +kernel
theorem dX4_takeToldBlocks_1 : decode cX4_takeToldBlocks 1 = .ok (.getfield 28, 3) := by decide +kernel
theorem dX4_takeToldBlocks_4 : decode cX4_takeToldBlocks 4 = .ok (.invokevirtual 177, 3) := by decide +kernel
theorem dX4_takeToldBlocks_7 : decode cX4_takeToldBlocks 7 = .ok (.iconst 0, 1) := by decide +kernel
theorem dX4_takeToldBlocks_8 : decode cX4_takeToldBlocks 8 = .ok (.istore_n 1, 1) := by decide +kernel
theorem dX4_takeToldBlocks_9 : decode cX4_takeToldBlocks 9 = .ok (.iload_n 1, 1) := by decide +kernel
theorem dX4_takeToldBlocks_10 : decode cX4_takeToldBlocks 10 = .ok (.bipush 32, 2) := by decide +kernel
theorem dX4_takeToldBlocks_12 : decode cX4_takeToldBlocks 12 = .ok (.if_icmp .ge 25, 3) := by decide +kernel
theorem dX4_takeToldBlocks_15 : decode cX4_takeToldBlocks 15 = .ok (.aload_n 0, 1) := by decide +kernel
theorem dX4_takeToldBlocks_16 : decode cX4_takeToldBlocks 16 = .ok (.getfield 21, 3) := by decide +kernel
theorem dX4_takeToldBlocks_19 : decode cX4_takeToldBlocks 19 = .ok (.iload_n 1, 1) := by decide +kernel
theorem dX4_takeToldBlocks_20 : decode cX4_takeToldBlocks 20 = .ok (.invokevirtual 180, 3) := by decide +kernel
theorem dX4_takeToldBlocks_23 : decode cX4_takeToldBlocks 23 = .ok (.ifCond .ne 8, 3) := by decide +kernel
theorem dX4_takeToldBlocks_26 : decode cX4_takeToldBlocks 26 = .ok (.aload_n 0, 1) := by decide +kernel
theorem dX4_takeToldBlocks_27 : decode cX4_takeToldBlocks 27 = .ok (.iload_n 1, 1) := by decide +kernel
theorem dX4_takeToldBlocks_28 : decode cX4_takeToldBlocks 28 = .ok (.invokevirtual 183, 3) := by decide +kernel
theorem dX4_takeToldBlocks_31 : decode cX4_takeToldBlocks 31 = .ok (.iinc 1 1, 3) := by decide +kernel
theorem dX4_takeToldBlocks_34 : decode cX4_takeToldBlocks 34 = .ok (.goto (-25), 3) := by decide +kernel
theorem dX4_takeToldBlocks_37 : decode cX4_takeToldBlocks 37 = .ok (.return_, 1) := by decide +kernel
set_option maxRecDepth 20000 in
theorem ggX4_takeBlocks_X2_blockNumber : GoodIn wsX4_takeBlocks wsX2_blockNumber := goodIn_r _ [6, 7, 8, 9, 4, 10, 11, 22, 23, 24, 25, 26, 27, 28, 29] (by decide +kernel) (by decide +kernel)
set_option maxRecDepth 20000 in
theorem gX4_takeBlocks_X2_blockNumber_n186 : GoodIn wsX4_takeBlocks (wsX2_blockNumber) := ggX4_takeBlocks_X2_blockNumber
set_option maxRecDepth 20000 in
theorem ggX4_takeBlocks_X0_take : GoodIn wsX4_takeBlocks wsX0_take := goodIn_r _ [15, 16, 30] (by decide +kernel) (by decide +kernel)
set_option maxRecDepth 20000 in
theorem gX4_takeBlocks_X0_take_n190 : GoodIn wsX4_takeBlocks (wsX0_take) := ggX4_takeBlocks_X0_take
theorem dX4_takeBlocks_0 : decode cX4_takeBlocks 0 = .ok (.iconst 0, 1) := by decide +kernel
theorem dX4_takeBlocks_1 : decode cX4_takeBlocks 1 = .ok (.istore_n 2, 1) := by decide +kernel
theorem dX4_takeBlocks_2 : decode cX4_takeBlocks 2 = .ok (.iload_n 2, 1) := by decide +kernel
theorem dX4_takeBlocks_3 : decode cX4_takeBlocks 3 = .ok (.bipush 7, 2) := by decide +kernel
theorem dX4_takeBlocks_5 : decode cX4_takeBlocks 5 = .ok (.if_icmp .ge 25, 3) := by decide +kernel
theorem dX4_takeBlocks_8 : decode cX4_takeBlocks 8 = .ok (.aload_n 0, 1) := by decide +kernel
theorem dX4_takeBlocks_9 : decode cX4_takeBlocks 9 = .ok (.getfield 28, 3) := by decide +kernel
theorem dX4_takeBlocks_12 : decode cX4_takeBlocks 12 = .ok (.aload_n 0, 1) := by decide +kernel
theorem dX4_takeBlocks_13 : decode cX4_takeBlocks 13 = .ok (.getfield 21, 3) := by decide +kernel
theorem dX4_takeBlocks_16 : decode cX4_takeBlocks 16 = .ok (.iload_n 1, 1) := by decide +kernel
theorem dX4_takeBlocks_17 : decode cX4_takeBlocks 17 = .ok (.iload_n 2, 1) := by decide +kernel
theorem dX4_takeBlocks_18 : decode cX4_takeBlocks 18 = .ok (.invokevirtual 186, 3) := by decide +kernel
theorem dX4_takeBlocks_21 : decode cX4_takeBlocks 21 = .ok (.invokevirtual 190, 3) := by decide +kernel
theorem dX4_takeBlocks_24 : decode cX4_takeBlocks 24 = .ok (.iinc 2 1, 3) := by decide +kernel
theorem dX4_takeBlocks_27 : decode cX4_takeBlocks 27 = .ok (.goto (-25), 3) := by decide +kernel
theorem dX4_takeBlocks_30 : decode cX4_takeBlocks 30 = .ok (.return_, 1) := by decide +kernel
set_option maxRecDepth 20000 in
theorem ggX4_giveBackBlocks_X2_blockNumber : GoodIn wsX4_giveBackBlocks wsX2_blockNumber := goodIn_r _ [6, 7, 8, 9, 4, 10, 11, 22, 23, 24, 25, 26, 27, 28, 29] (by decide +kernel) (by decide +kernel)
set_option maxRecDepth 20000 in
theorem gX4_giveBackBlocks_X2_blockNumber_n186 : GoodIn wsX4_giveBackBlocks (wsX2_blockNumber) := ggX4_giveBackBlocks_X2_blockNumber
set_option maxRecDepth 20000 in
theorem ggX4_giveBackBlocks_X0_giveBack : GoodIn wsX4_giveBackBlocks wsX0_giveBack := goodIn_r _ [15, 16, 30] (by decide +kernel) (by decide +kernel)
set_option maxRecDepth 20000 in
theorem gX4_giveBackBlocks_X0_giveBack_n193 : GoodIn wsX4_giveBackBlocks (wsX0_giveBack) := ggX4_giveBackBlocks_X0_giveBack
theorem dX4_giveBackBlocks_0 : decode cX4_giveBackBlocks 0 = .ok (.iconst 0, 1) := by decide +kernel
theorem dX4_giveBackBlocks_1 : decode cX4_giveBackBlocks 1 = .ok (.istore_n 2, 1) := by decide +kernel
theorem dX4_giveBackBlocks_2 : decode cX4_giveBackBlocks 2 = .ok (.iload_n 2, 1) := by decide +kernel
theorem dX4_giveBackBlocks_3 : decode cX4_giveBackBlocks 3 = .ok (.bipush 7, 2) := by decide +kernel
theorem dX4_giveBackBlocks_5 : decode cX4_giveBackBlocks 5 = .ok (.if_icmp .ge 25, 3) := by decide +kernel
theorem dX4_giveBackBlocks_8 : decode cX4_giveBackBlocks 8 = .ok (.aload_n 0, 1) := by decide +kernel
theorem dX4_giveBackBlocks_9 : decode cX4_giveBackBlocks 9 = .ok (.getfield 28, 3) := by decide +kernel
theorem dX4_giveBackBlocks_12 : decode cX4_giveBackBlocks 12 = .ok (.aload_n 0, 1) := by decide +kernel
theorem dX4_giveBackBlocks_13 : decode cX4_giveBackBlocks 13 = .ok (.getfield 21, 3) := by decide +kernel
theorem dX4_giveBackBlocks_16 : decode cX4_giveBackBlocks 16 = .ok (.iload_n 1, 1) := by decide +kernel
theorem dX4_giveBackBlocks_17 : decode cX4_giveBackBlocks 17 = .ok (.iload_n 2, 1) := by decide +kernel
theorem dX4_giveBackBlocks_18 : decode cX4_giveBackBlocks 18 = .ok (.invokevirtual 186, 3) := by decide +kernel
theorem dX4_giveBackBlocks_21 : decode cX4_giveBackBlocks 21 = .ok (.invokevirtual 193, 3) := by decide +kernel
theorem dX4_giveBackBlocks_24 : decode cX4_giveBackBlocks 24 = .ok (.iinc 2 1, 3) := by decide +kernel
theorem dX4_giveBackBlocks_27 : decode cX4_giveBackBlocks 27 = .ok (.goto (-25), 3) := by decide +kernel
theorem dX4_giveBackBlocks_30 : decode cX4_giveBackBlocks 30 = .ok (.return_, 1) := by decide +kernel
set_option maxRecDepth 20000 in
theorem ggX4_makeStretch_X1_beginStretch : GoodIn wsX4_makeStretch wsX1_beginStretch := goodIn_r _ [5, 6, 7, 8, 9, 34, 35, 36, 37, 38, 39, 40] (by decide +kernel) (by decide +kernel)
set_option maxRecDepth 20000 in
theorem gX4_makeStretch_X1_beginStretch_n196 : GoodIn wsX4_makeStretch (wsX1_beginStretch) := ggX4_makeStretch_X1_beginStretch
set_option maxRecDepth 20000 in
theorem ggX4_makeStretch_X2_makeEntry : GoodIn wsX4_makeStretch wsX2_makeEntry := goodIn_r _ [13, 14, 15, 16, 17, 18, 11, 19, 20, 21, 22, 23, 24, 25, 26, 27, 28, 41, 42, 43, 44, 34, 35, 36, 37, 38, 39, 40, 45, 46, 47, 48] (by decide +kernel) (by decide +kernel)
set_option maxRecDepth 20000 in
theorem gX4_makeStretch_X2_makeEntry_n199 : GoodIn wsX4_makeStretch (wsX2_makeEntry) := ggX4_makeStretch_X2_makeEntry
theorem dX4_makeStretch_0 : decode cX4_makeStretch 0 = .ok (.aload_n 1, 1) := by decide +kernel
theorem dX4_makeStretch_1 : decode cX4_makeStretch 1 = .ok (.iload_n 3, 1) := by decide +kernel
theorem dX4_makeStretch_2 : decode cX4_makeStretch 2 = .ok (.invokevirtual 196, 3) := by decide +kernel
theorem dX4_makeStretch_5 : decode cX4_makeStretch 5 = .ok (.aload_n 0, 1) := by decide +kernel
theorem dX4_makeStretch_6 : decode cX4_makeStretch 6 = .ok (.getfield 21, 3) := by decide +kernel
theorem dX4_makeStretch_9 : decode cX4_makeStretch 9 = .ok (.iload_n 2, 1) := by decide +kernel
theorem dX4_makeStretch_10 : decode cX4_makeStretch 10 = .ok (.aload_n 1, 1) := by decide +kernel
theorem dX4_makeStretch_11 : decode cX4_makeStretch 11 = .ok (.invokevirtual 199, 3) := by decide +kernel
theorem dX4_makeStretch_14 : decode cX4_makeStretch 14 = .ok (.ireturn, 1) := by decide +kernel
set_option maxRecDepth 20000 in
theorem ggX4_keepStretch_X2_firstOfStretch : GoodIn wsX4_keepStretch wsX2_firstOfStretch := goodIn_r _ [5, 6, 7, 8, 3, 9, 10, 11, 12, 13, 14, 15, 47, 48, 49, 50, 51, 52, 53, 54, 40, 41, 42, 43, 44, 45, 46] (by decide +kernel) (by decide +kernel)
set_option maxRecDepth 20000 in
theorem gX4_keepStretch_X2_firstOfStretch_n76 : GoodIn wsX4_keepStretch (wsX2_firstOfStretch) := ggX4_keepStretch_X2_firstOfStretch
set_option maxRecDepth 20000 in
theorem ggX4_keepStretch_X2_keepStretch : GoodIn wsX4_keepStretch wsX2_keepStretch := goodIn_r _ [18, 10, 19, 20, 21, 22, 23, 24, 25, 26, 27, 3, 28, 29, 30, 31, 32, 33, 34, 47, 48, 49, 50, 51, 52, 53, 54, 40, 41, 42, 43, 44, 45, 46] (by decide +kernel) (by decide +kernel)
set_option maxRecDepth 20000 in
theorem gX4_keepStretch_X2_keepStretch_n202 : GoodIn wsX4_keepStretch (wsX2_keepStretch) := ggX4_keepStretch_X2_keepStretch
theorem dX4_keepStretch_0 : decode cX4_keepStretch 0 = .ok (.aload_n 0, 1) := by decide +kernel
theorem dX4_keepStretch_1 : decode cX4_keepStretch 1 = .ok (.getfield 21, 3) := by decide +kernel
theorem dX4_keepStretch_4 : decode cX4_keepStretch 4 = .ok (.aload_n 1, 1) := by decide +kernel
theorem dX4_keepStretch_5 : decode cX4_keepStretch 5 = .ok (.aload_n 1, 1) := by decide +kernel
theorem dX4_keepStretch_6 : decode cX4_keepStretch 6 = .ok (.getfield 147, 3) := by decide +kernel
theorem dX4_keepStretch_9 : decode cX4_keepStretch 9 = .ok (.invokevirtual 76, 3) := by decide +kernel
theorem dX4_keepStretch_12 : decode cX4_keepStretch 12 = .ok (.istore_n 2, 1) := by decide +kernel
theorem dX4_keepStretch_13 : decode cX4_keepStretch 13 = .ok (.iload_n 2, 1) := by decide +kernel
theorem dX4_keepStretch_14 : decode cX4_keepStretch 14 = .ok (.iconst (-1), 1) := by decide +kernel
theorem dX4_keepStretch_15 : decode cX4_keepStretch 15 = .ok (.if_icmp .ne 5, 3) := by decide +kernel
theorem dX4_keepStretch_18 : decode cX4_keepStretch 18 = .ok (.iconst (-1), 1) := by decide +kernel
theorem dX4_keepStretch_19 : decode cX4_keepStretch 19 = .ok (.ireturn, 1) := by decide +kernel
theorem dX4_keepStretch_20 : decode cX4_keepStretch 20 = .ok (.aload_n 0, 1) := by decide +kernel
theorem dX4_keepStretch_21 : decode cX4_keepStretch 21 = .ok (.getfield 21, 3) := by decide +kernel
theorem dX4_keepStretch_24 : decode cX4_keepStretch 24 = .ok (.iload_n 2, 1) := by decide +kernel
theorem dX4_keepStretch_25 : decode cX4_keepStretch 25 = .ok (.aload_n 1, 1) := by decide +kernel
theorem dX4_keepStretch_26 : decode cX4_keepStretch 26 = .ok (.invokevirtual 202, 3) := by decide +kernel
theorem dX4_keepStretch_29 : decode cX4_keepStretch 29 = .ok (.ifCond .eq 7, 3) := by decide +kernel
theorem dX4_keepStretch_32 : decode cX4_keepStretch 32 = .ok (.iload_n 2, 1) := by decide +kernel
theorem dX4_keepStretch_33 : decode cX4_keepStretch 33 = .ok (.goto 5, 3) := by decide +kernel
theorem dX4_keepStretch_36 : decode cX4_keepStretch 36 = .ok (.bipush (-9), 2) := by decide +kernel
theorem dX4_keepStretch_38 : decode cX4_keepStretch 38 = .ok (.ireturn, 1) := by decide +kernel
set_option maxRecDepth 20000 in
theorem ggX4_goTo_X4_keepStretch : GoodIn wsX4_goTo wsX4_keepStretch := goodIn_r _ [6, 1, 7, 8, 9, 10, 11, 12, 13, 14, 15, 16, 17, 18, 19, 20, 21, 22, 23, 24, 25, 26, 27, 28, 29, 30, 31, 32, 33, 34, 35, 36, 37, 38, 39, 80, 81, 82, 83, 84, 73, 74, 75, 76, 77, 78, 79, 85, 86, 87, 88, 89, 90, 91, 92] (by decide +kernel) (by decide +kernel)
set_option maxRecDepth 20000 in
theorem gX4_goTo_X4_keepStretch : GoodIn wsX4_goTo (wsV RX4 97 RX4 yX4_keepStretch wsX4_keepStretch) := goodIn_app (goodIn_of _ (by decide +kernel)) ggX4_goTo_X4_keepStretch
set_option maxRecDepth 20000 in
theorem ggX4_goTo_X2_firstOfStretch : GoodIn wsX4_goTo wsX2_firstOfStretch := goodIn_r _ [10, 11, 12, 13, 8, 14, 15, 16, 17, 18, 19, 20, 85, 86, 87, 88, 89, 90, 91, 92, 73, 74, 75, 76, 77, 78, 79] (by decide +kernel) (by decide +kernel)
set_option maxRecDepth 20000 in
theorem gX4_goTo_X2_firstOfStretch_n76 : GoodIn wsX4_goTo (wsX2_firstOfStretch) := ggX4_goTo_X2_firstOfStretch
set_option maxRecDepth 20000 in
theorem ggX4_goTo_X2_fetchStretch : GoodIn wsX4_goTo wsX2_fetchStretch := goodIn_r _ [42, 11, 12, 13, 8, 14, 15, 43, 44, 45, 46, 73, 74, 75, 76, 77, 78, 79, 85, 86, 87, 88, 89, 90, 91, 92] (by decide +kernel) (by decide +kernel)
set_option maxRecDepth 20000 in
theorem gX4_goTo_X2_fetchStretch_n80 : GoodIn wsX4_goTo (wsX2_fetchStretch) := ggX4_goTo_X2_fetchStretch
set_option maxRecDepth 20000 in
theorem ggX4_goTo_X4_goToNew : GoodIn wsX4_goTo wsX4_goToNew := goodIn_r _ [50, 1, 51, 8, 52, 53, 54, 55, 56, 57, 11, 12, 13, 14, 15, 58, 59, 60, 5, 61, 62, 63, 64, 65, 66, 67, 68, 69, 70, 71, 72, 24, 20, 30, 31, 32, 33, 34, 26, 35, 36, 37, 38, 29, 39, 80, 81, 82, 83, 84, 85, 86, 87, 88, 89, 90, 91, 92, 73, 74, 75, 76, 77, 78, 79] (by decide +kernel) (by decide +kernel)
set_option maxRecDepth 20000 in
theorem gX4_goTo_X4_goToNew : GoodIn wsX4_goTo (wsV RX4 204 RX4 yX4_goToNew wsX4_goToNew) := goodIn_app (goodIn_of _ (by decide +kernel)) ggX4_goTo_X4_goToNew
theorem dX4_goTo_0 : decode cX4_goTo 0 = .ok (.iload_n 2, 1) := by decide +kernel
theorem dX4_goTo_1 : decode cX4_goTo 1 = .ok (.bipush 16, 2) := by decide +kernel
theorem dX4_goTo_3 : decode cX4_goTo 3 = .ok (.if_icmp .lt 6, 3) := by decide +kernel
theorem dX4_goTo_6 : decode cX4_goTo 6 = .ok (.bipush (-2), 2) := by decide +kernel
theorem dX4_goTo_8 : decode cX4_goTo 8 = .ok (.ireturn, 1) := by decide +kernel
theorem dX4_goTo_9 : decode cX4_goTo 9 = .ok (.iload_n 2, 1) := by decide +kernel
theorem dX4_goTo_10 : decode cX4_goTo 10 = .ok (.aload_n 1, 1) := by decide +kernel
theorem dX4_goTo_11 : decode cX4_goTo 11 = .ok (.getfield 147, 3) := by decide +kernel
theorem dX4_goTo_14 : decode cX4_goTo 14 = .ok (.if_icmp .ne 5, 3) := by decide +kernel
theorem dX4_goTo_17 : decode cX4_goTo 17 = .ok (.iconst 0, 1) := by decide +kernel
theorem dX4_goTo_18 : decode cX4_goTo 18 = .ok (.ireturn, 1) := by decide +kernel
theorem dX4_goTo_19 : decode cX4_goTo 19 = .ok (.aload_n 0, 1) := by decide +kernel
theorem dX4_goTo_20 : decode cX4_goTo 20 = .ok (.aload_n 1, 1) := by decide +kernel
theorem dX4_goTo_21 : decode cX4_goTo 21 = .ok (.invokevirtual 97, 3) := by decide +kernel
theorem dX4_goTo_24 : decode cX4_goTo 24 = .ok (.istore 4, 2) := by decide +kernel
theorem dX4_goTo_26 : decode cX4_goTo 26 = .ok (.iload 4, 2) := by decide +kernel
theorem dX4_goTo_28 : decode cX4_goTo 28 = .ok (.ifCond .ge 6, 3) := by decide +kernel
theorem dX4_goTo_31 : decode cX4_goTo 31 = .ok (.iload 4, 2) := by decide +kernel
theorem dX4_goTo_33 : decode cX4_goTo 33 = .ok (.ireturn, 1) := by decide +kernel
theorem dX4_goTo_34 : decode cX4_goTo 34 = .ok (.aload_n 0, 1) := by decide +kernel
theorem dX4_goTo_35 : decode cX4_goTo 35 = .ok (.getfield 21, 3) := by decide +kernel
theorem dX4_goTo_38 : decode cX4_goTo 38 = .ok (.aload_n 1, 1) := by decide +kernel
theorem dX4_goTo_39 : decode cX4_goTo 39 = .ok (.iload_n 2, 1) := by decide +kernel
theorem dX4_goTo_40 : decode cX4_goTo 40 = .ok (.invokevirtual 76, 3) := by decide +kernel
theorem dX4_goTo_43 : decode cX4_goTo 43 = .ok (.istore 5, 2) := by decide +kernel
theorem dX4_goTo_45 : decode cX4_goTo 45 = .ok (.iload 5, 2) := by decide +kernel
theorem dX4_goTo_47 : decode cX4_goTo 47 = .ok (.iconst (-1), 1) := by decide +kernel
theorem dX4_goTo_48 : decode cX4_goTo 48 = .ok (.if_icmp .eq 15, 3) := by decide +kernel
theorem dX4_goTo_51 : decode cX4_goTo 51 = .ok (.aload_n 0, 1) := by decide +kernel
theorem dX4_goTo_52 : decode cX4_goTo 52 = .ok (.getfield 21, 3) := by decide +kernel
theorem dX4_goTo_55 : decode cX4_goTo 55 = .ok (.iload 5, 2) := by decide +kernel
theorem dX4_goTo_57 : decode cX4_goTo 57 = .ok (.aload_n 1, 1) := by decide +kernel
theorem dX4_goTo_58 : decode cX4_goTo 58 = .ok (.invokevirtual 80, 3) := by decide +kernel
theorem dX4_goTo_61 : decode cX4_goTo 61 = .ok (.iconst 0, 1) := by decide +kernel
theorem dX4_goTo_62 : decode cX4_goTo 62 = .ok (.ireturn, 1) := by decide +kernel
theorem dX4_goTo_63 : decode cX4_goTo 63 = .ok (.iload_n 3, 1) := by decide +kernel
theorem dX4_goTo_64 : decode cX4_goTo 64 = .ok (.ifCond .eq 12, 3) := by decide +kernel
theorem dX4_goTo_67 : decode cX4_goTo 67 = .ok (.aload_n 0, 1) := by decide +kernel
theorem dX4_goTo_68 : decode cX4_goTo 68 = .ok (.aload_n 1, 1) := by decide +kernel
theorem dX4_goTo_69 : decode cX4_goTo 69 = .ok (.iload_n 2, 1) := by decide +kernel
theorem dX4_goTo_70 : decode cX4_goTo 70 = .ok (.invokevirtual 204, 3) := by decide +kernel
theorem dX4_goTo_73 : decode cX4_goTo 73 = .ok (.goto 4, 3) := by decide +kernel
theorem dX4_goTo_76 : decode cX4_goTo 76 = .ok (.iconst (-1), 1) := by decide +kernel
theorem dX4_goTo_77 : decode cX4_goTo 77 = .ok (.ireturn, 1) := by decide +kernel
set_option maxRecDepth 20000 in
theorem ggX4_goToNew_X2_firstFree : GoodIn wsX4_goToNew wsX2_firstFree := goodIn_r _ [5, 6, 7, 8, 3, 9, 10, 11, 12, 13, 14, 50, 51, 52, 53, 54, 55, 56, 57] (by decide +kernel) (by decide +kernel)
set_option maxRecDepth 20000 in
theorem gX4_goToNew_X2_firstFree_n90 : GoodIn wsX4_goToNew (wsX2_firstFree) := ggX4_goToNew_X2_firstFree
set_option maxRecDepth 20000 in
theorem ggX4_goToNew_X4_makeStretch : GoodIn wsX4_goToNew wsX4_makeStretch := goodIn_r _ [19, 1, 20, 21, 22, 23, 24, 25, 26, 27, 28, 3, 29, 30, 31, 32, 33, 34, 35, 36, 14, 37, 38, 39, 40, 41, 42, 43, 44, 45, 46, 47, 48, 49, 58, 59, 60, 61, 62, 63, 64, 50, 51, 52, 53, 54, 55, 56, 57] (by decide +kernel) (by decide +kernel)
set_option maxRecDepth 20000 in
theorem gX4_goToNew_X4_makeStretch : GoodIn wsX4_goToNew (wsV RX4 93 RX4 yX4_makeStretch wsX4_makeStretch) := goodIn_app (goodIn_of _ (by decide +kernel)) ggX4_goToNew_X4_makeStretch
theorem dX4_goToNew_0 : decode cX4_goToNew 0 = .ok (.aload_n 0, 1) := by decide +kernel
theorem dX4_goToNew_1 : decode cX4_goToNew 1 = .ok (.getfield 21, 3) := by decide +kernel
theorem dX4_goToNew_4 : decode cX4_goToNew 4 = .ok (.invokevirtual 90, 3) := by decide +kernel
theorem dX4_goToNew_7 : decode cX4_goToNew 7 = .ok (.istore_n 3, 1) := by decide +kernel
theorem dX4_goToNew_8 : decode cX4_goToNew 8 = .ok (.iload_n 3, 1) := by decide +kernel
theorem dX4_goToNew_9 : decode cX4_goToNew 9 = .ok (.iconst (-1), 1) := by decide +kernel
theorem dX4_goToNew_10 : decode cX4_goToNew 10 = .ok (.if_icmp .ne 6, 3) := by decide +kernel
theorem dX4_goToNew_13 : decode cX4_goToNew 13 = .ok (.bipush (-2), 2) := by decide +kernel
theorem dX4_goToNew_15 : decode cX4_goToNew 15 = .ok (.ireturn, 1) := by decide +kernel
theorem dX4_goToNew_16 : decode cX4_goToNew 16 = .ok (.aload_n 0, 1) := by decide +kernel
theorem dX4_goToNew_17 : decode cX4_goToNew 17 = .ok (.aload_n 1, 1) := by decide +kernel
theorem dX4_goToNew_18 : decode cX4_goToNew 18 = .ok (.iload_n 3, 1) := by decide +kernel
theorem dX4_goToNew_19 : decode cX4_goToNew 19 = .ok (.iload_n 2, 1) := by decide +kernel
theorem dX4_goToNew_20 : decode cX4_goToNew 20 = .ok (.invokevirtual 93, 3) := by decide +kernel
theorem dX4_goToNew_23 : decode cX4_goToNew 23 = .ok (.ifCond .eq 7, 3) := by decide +kernel
theorem dX4_goToNew_26 : decode cX4_goToNew 26 = .ok (.iconst 0, 1) := by decide +kernel
theorem dX4_goToNew_27 : decode cX4_goToNew 27 = .ok (.goto 5, 3) := by decide +kernel
theorem dX4_goToNew_30 : decode cX4_goToNew 30 = .ok (.bipush (-9), 2) := by decide +kernel
theorem dX4_goToNew_32 : decode cX4_goToNew 32 = .ok (.ireturn, 1) := by decide +kernel
set_option maxRecDepth 20000 in
theorem ggX4_moveNext_X4_goTo : GoodIn wsX4_moveNext wsX4_goTo := goodIn_r _ [5, 6, 7, 8, 9, 4, 10, 11, 12, 13, 14, 15, 16, 17, 18, 19, 20, 21, 22, 23, 24, 25, 26, 27, 28, 29, 30, 31, 32, 33, 34, 35, 36, 37, 38, 39, 40, 41, 42, 43, 44, 45, 46, 47, 48, 49, 50, 51, 52, 53, 54, 55, 56, 57, 58, 59, 60, 61, 62, 63, 64, 65, 66, 67, 68, 69, 70, 71, 72, 73, 74, 75, 76, 104, 105, 106, 107, 108, 109, 110, 111, 112, 113, 114, 115, 116, 117, 118, 119, 120, 121, 122, 123] (by decide +kernel) (by decide +kernel)
set_option maxRecDepth 20000 in
theorem gX4_moveNext_X4_goTo : GoodIn wsX4_moveNext (wsV RX4 134 RX4 yX4_goTo wsX4_goTo) := goodIn_app (goodIn_of _ (by decide +kernel)) ggX4_moveNext_X4_goTo
set_option maxRecDepth 20000 in
theorem ggX4_moveNext_X4_moveRecord : GoodIn wsX4_moveNext wsX4_moveRecord := goodIn_r _ [80, 81, 82, 83, 4, 84, 85, 86, 87, 88, 89, 90, 91, 92, 93, 94, 95, 96, 97, 67, 98, 99, 73, 38, 30, 39, 40, 41, 42, 33, 43, 100, 101, 102, 103, 29, 31, 32, 104, 105, 106, 107, 108, 109, 110, 111, 112, 113, 114, 115, 124, 120, 121, 122, 123] (by decide +kernel) (by decide +kernel)
set_option maxRecDepth 20000 in
theorem gX4_moveNext_X4_moveRecord : GoodIn wsX4_moveNext (wsV RX4 138 RX4 yX4_moveRecord wsX4_moveRecord) := goodIn_app (goodIn_of _ (by decide +kernel)) ggX4_moveNext_X4_moveRecord
theorem dX4_moveNext_0 : decode cX4_moveNext 0 = .ok (.aload_n 1, 1) := by decide +kernel
theorem dX4_moveNext_1 : decode cX4_moveNext 1 = .ok (.getfield 54, 3) := by decide +kernel
theorem dX4_moveNext_4 : decode cX4_moveNext 4 = .ok (.ifCond .ne 5, 3) := by decide +kernel
theorem dX4_moveNext_7 : decode cX4_moveNext 7 = .ok (.iconst (-1), 1) := by decide +kernel
theorem dX4_moveNext_8 : decode cX4_moveNext 8 = .ok (.ireturn, 1) := by decide +kernel
theorem dX4_moveNext_9 : decode cX4_moveNext 9 = .ok (.aload_n 1, 1) := by decide +kernel
theorem dX4_moveNext_10 : decode cX4_moveNext 10 = .ok (.getfield 141, 3) := by decide +kernel
theorem dX4_moveNext_13 : decode cX4_moveNext 13 = .ok (.bipush 28, 2) := by decide +kernel
theorem dX4_moveNext_15 : decode cX4_moveNext 15 = .ok (.if_icmp .lt 22, 3) := by decide +kernel
theorem dX4_moveNext_18 : decode cX4_moveNext 18 = .ok (.aload_n 0, 1) := by decide +kernel
theorem dX4_moveNext_19 : decode cX4_moveNext 19 = .ok (.aload_n 1, 1) := by decide +kernel
theorem dX4_moveNext_20 : decode cX4_moveNext 20 = .ok (.aload_n 1, 1) := by decide +kernel
theorem dX4_moveNext_21 : decode cX4_moveNext 21 = .ok (.getfield 147, 3) := by decide +kernel
theorem dX4_moveNext_24 : decode cX4_moveNext 24 = .ok (.iconst 1, 1) := by decide +kernel
theorem dX4_moveNext_25 : decode cX4_moveNext 25 = .ok (.iadd, 1) := by decide +kernel
theorem dX4_moveNext_26 : decode cX4_moveNext 26 = .ok (.iload_n 2, 1) := by decide +kernel
theorem dX4_moveNext_27 : decode cX4_moveNext 27 = .ok (.invokevirtual 134, 3) := by decide +kernel
theorem dX4_moveNext_30 : decode cX4_moveNext 30 = .ok (.istore_n 3, 1) := by decide +kernel
theorem dX4_moveNext_31 : decode cX4_moveNext 31 = .ok (.iload_n 3, 1) := by decide +kernel
theorem dX4_moveNext_32 : decode cX4_moveNext 32 = .ok (.ifCond .eq 5, 3) := by decide +kernel
theorem dX4_moveNext_35 : decode cX4_moveNext 35 = .ok (.iload_n 3, 1) := by decide +kernel
theorem dX4_moveNext_36 : decode cX4_moveNext 36 = .ok (.ireturn, 1) := by decide +kernel
theorem dX4_moveNext_37 : decode cX4_moveNext 37 = .ok (.aload_n 0, 1) := by decide +kernel
theorem dX4_moveNext_38 : decode cX4_moveNext 38 = .ok (.aload_n 1, 1) := by decide +kernel
theorem dX4_moveNext_39 : decode cX4_moveNext 39 = .ok (.aload_n 1, 1) := by decide +kernel
theorem dX4_moveNext_40 : decode cX4_moveNext 40 = .ok (.getfield 141, 3) := by decide +kernel
theorem dX4_moveNext_43 : decode cX4_moveNext 43 = .ok (.iload_n 2, 1) := by decide +kernel
theorem dX4_moveNext_44 : decode cX4_moveNext 44 = .ok (.invokevirtual 138, 3) := by decide +kernel
theorem dX4_moveNext_47 : decode cX4_moveNext 47 = .ok (.istore_n 3, 1) := by decide +kernel
theorem dX4_moveNext_48 : decode cX4_moveNext 48 = .ok (.iload_n 3, 1) := by decide +kernel
theorem dX4_moveNext_49 : decode cX4_moveNext 49 = .ok (.ifCond .ne 13, 3) := by decide +kernel
theorem dX4_moveNext_52 : decode cX4_moveNext 52 = .ok (.aload_n 1, 1) := by decide +kernel
theorem dX4_moveNext_53 : decode cX4_moveNext 53 = .ok (.dup, 1) := by decide +kernel
theorem dX4_moveNext_54 : decode cX4_moveNext 54 = .ok (.getfield 141, 3) := by decide +kernel
theorem dX4_moveNext_57 : decode cX4_moveNext 57 = .ok (.iconst 1, 1) := by decide +kernel
theorem dX4_moveNext_58 : decode cX4_moveNext 58 = .ok (.iadd, 1) := by decide +kernel
theorem dX4_moveNext_59 : decode cX4_moveNext 59 = .ok (.putfield 141, 3) := by decide +kernel
theorem dX4_moveNext_62 : decode cX4_moveNext 62 = .ok (.iload_n 3, 1) := by decide +kernel
theorem dX4_moveNext_63 : decode cX4_moveNext 63 = .ok (.ireturn, 1) := by decide +kernel
set_option maxRecDepth 20000 in
theorem ggX4_moveRecord_X4_putRecord : GoodIn wsX4_moveRecord wsX4_putRecord := goodIn_r _ [5, 6, 7, 8, 9, 10, 11, 12, 13, 14, 15, 16, 17, 18, 19, 20, 21, 22, 23, 24, 25, 26, 27, 28, 29, 30, 38, 39, 40, 41, 42, 43, 44, 45, 46, 47, 48, 49, 50, 51, 52, 53, 54] (by decide +kernel) (by decide +kernel)
set_option maxRecDepth 20000 in
theorem gX4_moveRecord_X4_putRecord : GoodIn wsX4_moveRecord (wsV RX4 207 RX4 yX4_putRecord wsX4_putRecord) := goodIn_app (goodIn_of _ (by decide +kernel)) ggX4_moveRecord_X4_putRecord
set_option maxRecDepth 20000 in
theorem ggX4_moveRecord_X4_getRecord : GoodIn wsX4_moveRecord wsX4_getRecord := goodIn_r _ [34, 7, 8, 18, 19, 20, 21, 22, 35, 24, 36, 37, 29, 38, 39, 40, 41, 42, 43, 44, 45, 46, 47, 48, 49, 51, 52, 53, 54] (by decide +kernel) (by decide +kernel)
set_option maxRecDepth 20000 in
theorem gX4_moveRecord_X4_getRecord : GoodIn wsX4_moveRecord (wsV RX4 210 RX4 yX4_getRecord wsX4_getRecord) := goodIn_app (goodIn_of _ (by decide +kernel)) ggX4_moveRecord_X4_getRecord
theorem dX4_moveRecord_0 : decode cX4_moveRecord 0 = .ok (.iload_n 3, 1) := by decide +kernel
theorem dX4_moveRecord_1 : decode cX4_moveRecord 1 = .ok (.ifCond .eq 12, 3) := by decide +kernel
theorem dX4_moveRecord_4 : decode cX4_moveRecord 4 = .ok (.aload_n 0, 1) := by decide +kernel
theorem dX4_moveRecord_5 : decode cX4_moveRecord 5 = .ok (.aload_n 1, 1) := by decide +kernel
theorem dX4_moveRecord_6 : decode cX4_moveRecord 6 = .ok (.iload_n 2, 1) := by decide +kernel
theorem dX4_moveRecord_7 : decode cX4_moveRecord 7 = .ok (.invokevirtual 207, 3) := by decide +kernel
theorem dX4_moveRecord_10 : decode cX4_moveRecord 10 = .ok (.goto 9, 3) := by decide +kernel
theorem dX4_moveRecord_13 : decode cX4_moveRecord 13 = .ok (.aload_n 0, 1) := by decide +kernel
theorem dX4_moveRecord_14 : decode cX4_moveRecord 14 = .ok (.aload_n 1, 1) := by decide +kernel
theorem dX4_moveRecord_15 : decode cX4_moveRecord 15 = .ok (.iload_n 2, 1) := by decide +kernel
theorem dX4_moveRecord_16 : decode cX4_moveRecord 16 = .ok (.invokevirtual 210, 3) := by decide +kernel
theorem dX4_moveRecord_19 : decode cX4_moveRecord 19 = .ok (.ireturn, 1) := by decide +kernel
set_option maxRecDepth 20000 in
theorem ggX4_putRecord_X0_giveLeast : GoodIn wsX4_putRecord wsX0_giveLeast := goodIn_r _ [11, 12, 38] (by decide +kernel) (by decide +kernel)
set_option maxRecDepth 20000 in
theorem gX4_putRecord_X0_giveLeast_n213 : GoodIn wsX4_putRecord (wsX0_giveLeast) := ggX4_putRecord_X0_giveLeast
set_option maxRecDepth 20000 in
theorem ggX4_putRecord_X1_recordAt : GoodIn wsX4_putRecord wsX1_recordAt := goodIn_r _ [16, 17, 26, 27, 28, 29, 30, 31, 32] (by decide +kernel) (by decide +kernel)
set_option maxRecDepth 20000 in
theorem gX4_putRecord_X1_recordAt_n216 : GoodIn wsX4_putRecord (wsX1_recordAt) := ggX4_putRecord_X1_recordAt
set_option maxRecDepth 20000 in
theorem ggX4_putRecord_X3_putRow : GoodIn wsX4_putRecord wsX3_putRow := goodIn_r _ [21, 22, 23, 24, 25, 39, 40, 41, 42] (by decide +kernel) (by decide +kernel)
set_option maxRecDepth 20000 in
theorem gX4_putRecord_X3_putRow_n219 : GoodIn wsX4_putRecord (wsX3_putRow) := ggX4_putRecord_X3_putRow
theorem dX4_putRecord_0 : decode cX4_putRecord 0 = .ok (.aload_n 1, 1) := by decide +kernel
theorem dX4_putRecord_1 : decode cX4_putRecord 1 = .ok (.getfield 88, 3) := by decide +kernel
theorem dX4_putRecord_4 : decode cX4_putRecord 4 = .ok (.ifCond .eq 6, 3) := by decide +kernel
theorem dX4_putRecord_7 : decode cX4_putRecord 7 = .ok (.bipush (-3), 2) := by decide +kernel
theorem dX4_putRecord_9 : decode cX4_putRecord 9 = .ok (.ireturn, 1) := by decide +kernel
theorem dX4_putRecord_10 : decode cX4_putRecord 10 = .ok (.iload_n 2, 1) := by decide +kernel
theorem dX4_putRecord_11 : decode cX4_putRecord 11 = .ok (.iconst 4, 1) := by decide +kernel
theorem dX4_putRecord_12 : decode cX4_putRecord 12 = .ok (.idiv, 1) := by decide +kernel
theorem dX4_putRecord_13 : decode cX4_putRecord 13 = .ok (.istore_n 3, 1) := by decide +kernel
theorem dX4_putRecord_14 : decode cX4_putRecord 14 = .ok (.aload_n 1, 1) := by decide +kernel
theorem dX4_putRecord_15 : decode cX4_putRecord 15 = .ok (.getfield 153, 3) := by decide +kernel
theorem dX4_putRecord_18 : decode cX4_putRecord 18 = .ok (.iload_n 3, 1) := by decide +kernel
theorem dX4_putRecord_19 : decode cX4_putRecord 19 = .ok (.iaload, 1) := by decide +kernel
theorem dX4_putRecord_20 : decode cX4_putRecord 20 = .ok (.ifCond .ne 29, 3) := by decide +kernel
theorem dX4_putRecord_23 : decode cX4_putRecord 23 = .ok (.aload_n 0, 1) := by decide +kernel
theorem dX4_putRecord_24 : decode cX4_putRecord 24 = .ok (.getfield 28, 3) := by decide +kernel
theorem dX4_putRecord_27 : decode cX4_putRecord 27 = .ok (.invokevirtual 213, 3) := by decide +kernel
theorem dX4_putRecord_30 : decode cX4_putRecord 30 = .ok (.istore 4, 2) := by decide +kernel
theorem dX4_putRecord_32 : decode cX4_putRecord 32 = .ok (.iload 4, 2) := by decide +kernel
theorem dX4_putRecord_34 : decode cX4_putRecord 34 = .ok (.iconst (-1), 1) := by decide +kernel
theorem dX4_putRecord_35 : decode cX4_putRecord 35 = .ok (.if_icmp .ne 6, 3) := by decide +kernel
theorem dX4_putRecord_38 : decode cX4_putRecord 38 = .ok (.bipush (-4), 2) := by decide +kernel
theorem dX4_putRecord_40 : decode cX4_putRecord 40 = .ok (.ireturn, 1) := by decide +kernel
theorem dX4_putRecord_41 : decode cX4_putRecord 41 = .ok (.aload_n 1, 1) := by decide +kernel
theorem dX4_putRecord_42 : decode cX4_putRecord 42 = .ok (.getfield 153, 3) := by decide +kernel
theorem dX4_putRecord_45 : decode cX4_putRecord 45 = .ok (.iload_n 3, 1) := by decide +kernel
theorem dX4_putRecord_46 : decode cX4_putRecord 46 = .ok (.iload 4, 2) := by decide +kernel
theorem dX4_putRecord_48 : decode cX4_putRecord 48 = .ok (.iastore, 1) := by decide +kernel
theorem dX4_putRecord_49 : decode cX4_putRecord 49 = .ok (.aload_n 0, 1) := by decide +kernel
theorem dX4_putRecord_50 : decode cX4_putRecord 50 = .ok (.getfield 12, 3) := by decide +kernel
theorem dX4_putRecord_53 : decode cX4_putRecord 53 = .ok (.aload_n 1, 1) := by decide +kernel
theorem dX4_putRecord_54 : decode cX4_putRecord 54 = .ok (.iload_n 2, 1) := by decide +kernel
theorem dX4_putRecord_55 : decode cX4_putRecord 55 = .ok (.invokevirtual 216, 3) := by decide +kernel
theorem dX4_putRecord_58 : decode cX4_putRecord 58 = .ok (.aload_n 0, 1) := by decide +kernel
theorem dX4_putRecord_59 : decode cX4_putRecord 59 = .ok (.getfield 39, 3) := by decide +kernel
theorem dX4_putRecord_62 : decode cX4_putRecord 62 = .ok (.invokevirtual 219, 3) := by decide +kernel
theorem dX4_putRecord_65 : decode cX4_putRecord 65 = .ok (.ifCond .ne 6, 3) := by decide +kernel
theorem dX4_putRecord_68 : decode cX4_putRecord 68 = .ok (.bipush (-9), 2) := by decide +kernel
theorem dX4_putRecord_70 : decode cX4_putRecord 70 = .ok (.ireturn, 1) := by decide +kernel
theorem dX4_putRecord_71 : decode cX4_putRecord 71 = .ok (.aload_n 1, 1) := by decide +kernel
theorem dX4_putRecord_72 : decode cX4_putRecord 72 = .ok (.aload_n 1, 1) := by decide +kernel
theorem dX4_putRecord_73 : decode cX4_putRecord 73 = .ok (.getfield 150, 3) := by decide +kernel
theorem dX4_putRecord_76 : decode cX4_putRecord 76 = .ok (.iload_n 2, 1) := by decide +kernel
theorem dX4_putRecord_77 : decode cX4_putRecord 77 = .ok (.iconst 1, 1) := by decide +kernel
theorem dX4_putRecord_78 : decode cX4_putRecord 78 = .ok (.iadd, 1) := by decide +kernel
theorem dX4_putRecord_79 : decode cX4_putRecord 79 = .ok (.invokestatic 223, 3) := by decide +kernel
theorem dX4_putRecord_82 : decode cX4_putRecord 82 = .ok (.putfield 150, 3) := by decide +kernel
theorem dX4_putRecord_85 : decode cX4_putRecord 85 = .ok (.iconst 0, 1) := by decide +kernel
theorem dX4_putRecord_86 : decode cX4_putRecord 86 = .ok (.ireturn, 1) := by decide +kernel
set_option maxRecDepth 20000 in
theorem ggX4_getRecord_X1_recordAt : GoodIn wsX4_getRecord wsX1_recordAt := goodIn_r _ [6, 7, 13, 14, 15, 16, 17, 18, 19] (by decide +kernel) (by decide +kernel)
set_option maxRecDepth 20000 in
theorem gX4_getRecord_X1_recordAt_n216 : GoodIn wsX4_getRecord (wsX1_recordAt) := ggX4_getRecord_X1_recordAt
set_option maxRecDepth 20000 in
theorem ggX4_getRecord_X3_getRow : GoodIn wsX4_getRecord wsX3_getRow := goodIn_r _ [11, 12, 25, 26, 27, 28] (by decide +kernel) (by decide +kernel)
set_option maxRecDepth 20000 in
theorem gX4_getRecord_X3_getRow_n228 : GoodIn wsX4_getRecord (wsX3_getRow) := ggX4_getRecord_X3_getRow
theorem dX4_getRecord_0 : decode cX4_getRecord 0 = .ok (.iload_n 2, 1) := by decide +kernel
theorem dX4_getRecord_1 : decode cX4_getRecord 1 = .ok (.aload_n 1, 1) := by decide +kernel
theorem dX4_getRecord_2 : decode cX4_getRecord 2 = .ok (.getfield 150, 3) := by decide +kernel
theorem dX4_getRecord_5 : decode cX4_getRecord 5 = .ok (.if_icmp .ge 14, 3) := by decide +kernel
theorem dX4_getRecord_8 : decode cX4_getRecord 8 = .ok (.aload_n 1, 1) := by decide +kernel
theorem dX4_getRecord_9 : decode cX4_getRecord 9 = .ok (.getfield 153, 3) := by decide +kernel
theorem dX4_getRecord_12 : decode cX4_getRecord 12 = .ok (.iload_n 2, 1) := by decide +kernel
theorem dX4_getRecord_13 : decode cX4_getRecord 13 = .ok (.iconst 4, 1) := by decide +kernel
theorem dX4_getRecord_14 : decode cX4_getRecord 14 = .ok (.idiv, 1) := by decide +kernel
theorem dX4_getRecord_15 : decode cX4_getRecord 15 = .ok (.iaload, 1) := by decide +kernel
theorem dX4_getRecord_16 : decode cX4_getRecord 16 = .ok (.ifCond .ne 5, 3) := by decide +kernel
theorem dX4_getRecord_19 : decode cX4_getRecord 19 = .ok (.iconst (-1), 1) := by decide +kernel
theorem dX4_getRecord_20 : decode cX4_getRecord 20 = .ok (.ireturn, 1) := by decide +kernel
theorem dX4_getRecord_21 : decode cX4_getRecord 21 = .ok (.aload_n 0, 1) := by decide +kernel
theorem dX4_getRecord_22 : decode cX4_getRecord 22 = .ok (.getfield 12, 3) := by decide +kernel
theorem dX4_getRecord_25 : decode cX4_getRecord 25 = .ok (.aload_n 1, 1) := by decide +kernel
theorem dX4_getRecord_26 : decode cX4_getRecord 26 = .ok (.iload_n 2, 1) := by decide +kernel
theorem dX4_getRecord_27 : decode cX4_getRecord 27 = .ok (.invokevirtual 216, 3) := by decide +kernel
theorem dX4_getRecord_30 : decode cX4_getRecord 30 = .ok (.aload_n 0, 1) := by decide +kernel
theorem dX4_getRecord_31 : decode cX4_getRecord 31 = .ok (.getfield 39, 3) := by decide +kernel
theorem dX4_getRecord_34 : decode cX4_getRecord 34 = .ok (.invokevirtual 228, 3) := by decide +kernel
theorem dX4_getRecord_37 : decode cX4_getRecord 37 = .ok (.iconst 0, 1) := by decide +kernel
theorem dX4_getRecord_38 : decode cX4_getRecord 38 = .ok (.ireturn, 1) := by decide +kernel
