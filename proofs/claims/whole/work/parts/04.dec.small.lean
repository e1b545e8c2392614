theorem dX0_init_0 : decode cX0_init 0 = .ok (.aload_n 0, 1) := by decide +kernel
theorem dX0_init_1 : decode cX0_init 1 = .ok (.invokespecial 3, 3) := by decide +kernel
theorem dX0_init_4 : decode cX0_init 4 = .ok (.aload_n 0, 1) := by decide +kernel
theorem dX0_init_5 : decode cX0_init 5 = .ok (.bipush 64, 2) := by decide +kernel
theorem dX0_init_7 : decode cX0_init 7 = .ok (.newarray .boolean, 2) := by decide +kernel
theorem dX0_init_9 : decode cX0_init 9 = .ok (.putfield 9, 3) := by decide +kernel
theorem dX0_init_12 : decode cX0_init 12 = .ok (.iconst 0, 1) := by decide +kernel
theorem dX0_init_13 : decode cX0_init 13 = .ok (.istore_n 1, 1) := by decide +kernel
theorem dX0_init_14 : decode cX0_init 14 = .ok (.iload_n 1, 1) := by decide +kernel
theorem dX0_init_15 : decode cX0_init 15 = .ok (.bipush 8, 2) := by decide +kernel
theorem dX0_init_17 : decode cX0_init 17 = .ok (.if_icmp .ge 16, 3) := by decide +kernel
theorem dX0_init_20 : decode cX0_init 20 = .ok (.aload_n 0, 1) := by decide +kernel
theorem dX0_init_21 : decode cX0_init 21 = .ok (.getfield 9, 3) := by decide +kernel
theorem dX0_init_24 : decode cX0_init 24 = .ok (.iload_n 1, 1) := by decide +kernel
theorem dX0_init_25 : decode cX0_init 25 = .ok (.iconst 1, 1) := by decide +kernel
theorem dX0_init_26 : decode cX0_init 26 = .ok (.bastore, 1) := by decide +kernel
theorem dX0_init_27 : decode cX0_init 27 = .ok (.iinc 1 1, 3) := by decide +kernel
theorem dX0_init_30 : decode cX0_init 30 = .ok (.goto (-16), 3) := by decide +kernel
theorem dX0_init_33 : decode cX0_init 33 = .ok (.return_, 1) := by decide +kernel
theorem dX0_clear_0 : decode cX0_clear 0 = .ok (.bipush 8, 2) := by decide +kernel
theorem dX0_clear_2 : decode cX0_clear 2 = .ok (.istore_n 1, 1) := by decide +kernel
theorem dX0_clear_3 : decode cX0_clear 3 = .ok (.iload_n 1, 1) := by decide +kernel
theorem dX0_clear_4 : decode cX0_clear 4 = .ok (.bipush 64, 2) := by decide +kernel
theorem dX0_clear_6 : decode cX0_clear 6 = .ok (.if_icmp .ge 16, 3) := by decide +kernel
theorem dX0_clear_9 : decode cX0_clear 9 = .ok (.aload_n 0, 1) := by decide +kernel
theorem dX0_clear_10 : decode cX0_clear 10 = .ok (.getfield 9, 3) := by decide +kernel
theorem dX0_clear_13 : decode cX0_clear 13 = .ok (.iload_n 1, 1) := by decide +kernel
theorem dX0_clear_14 : decode cX0_clear 14 = .ok (.iconst 0, 1) := by decide +kernel
theorem dX0_clear_15 : decode cX0_clear 15 = .ok (.bastore, 1) := by decide +kernel
theorem dX0_clear_16 : decode cX0_clear 16 = .ok (.iinc 1 1, 3) := by decide +kernel
theorem dX0_clear_19 : decode cX0_clear 19 = .ok (.goto (-16), 3) := by decide +kernel
theorem dX0_clear_22 : decode cX0_clear 22 = .ok (.return_, 1) := by decide +kernel
theorem dX0_take_0 : decode cX0_take 0 = .ok (.aload_n 0, 1) := by decide +kernel
theorem dX0_take_1 : decode cX0_take 1 = .ok (.getfield 9, 3) := by decide +kernel
theorem dX0_take_4 : decode cX0_take 4 = .ok (.iload_n 1, 1) := by decide +kernel
theorem dX0_take_5 : decode cX0_take 5 = .ok (.bipush 64, 2) := by decide +kernel
theorem dX0_take_7 : decode cX0_take 7 = .ok (.irem, 1) := by decide +kernel
theorem dX0_take_8 : decode cX0_take 8 = .ok (.iconst 1, 1) := by decide +kernel
theorem dX0_take_9 : decode cX0_take 9 = .ok (.bastore, 1) := by decide +kernel
theorem dX0_take_10 : decode cX0_take 10 = .ok (.return_, 1) := by decide +kernel
theorem dX0_giveBack_0 : decode cX0_giveBack 0 = .ok (.iload_n 1, 1) := by decide +kernel
theorem dX0_giveBack_1 : decode cX0_giveBack 1 = .ok (.bipush 64, 2) := by decide +kernel
theorem dX0_giveBack_3 : decode cX0_giveBack 3 = .ok (.irem, 1) := by decide +kernel
theorem dX0_giveBack_4 : decode cX0_giveBack 4 = .ok (.istore_n 2, 1) := by decide +kernel
theorem dX0_giveBack_5 : decode cX0_giveBack 5 = .ok (.aload_n 0, 1) := by decide +kernel
theorem dX0_giveBack_6 : decode cX0_giveBack 6 = .ok (.getfield 9, 3) := by decide +kernel
theorem dX0_giveBack_9 : decode cX0_giveBack 9 = .ok (.iload_n 2, 1) := by decide +kernel
theorem dX0_giveBack_10 : decode cX0_giveBack 10 = .ok (.iload_n 2, 1) := by decide +kernel
theorem dX0_giveBack_11 : decode cX0_giveBack 11 = .ok (.bipush 8, 2) := by decide +kernel
theorem dX0_giveBack_13 : decode cX0_giveBack 13 = .ok (.if_icmp .ge 7, 3) := by decide +kernel
theorem dX0_giveBack_16 : decode cX0_giveBack 16 = .ok (.iconst 1, 1) := by decide +kernel
theorem dX0_giveBack_17 : decode cX0_giveBack 17 = .ok (.goto 4, 3) := by decide +kernel
theorem dX0_giveBack_20 : decode cX0_giveBack 20 = .ok (.iconst 0, 1) := by decide +kernel
theorem dX0_giveBack_21 : decode cX0_giveBack 21 = .ok (.bastore, 1) := by decide +kernel
theorem dX0_giveBack_22 : decode cX0_giveBack 22 = .ok (.return_, 1) := by decide +kernel
theorem dX0_giveLeast_0 : decode cX0_giveLeast 0 = .ok (.bipush 8, 2) := by decide +kernel
theorem dX0_giveLeast_2 : decode cX0_giveLeast 2 = .ok (.istore_n 1, 1) := by decide +kernel
theorem dX0_giveLeast_3 : decode cX0_giveLeast 3 = .ok (.iload_n 1, 1) := by decide +kernel
theorem dX0_giveLeast_4 : decode cX0_giveLeast 4 = .ok (.bipush 64, 2) := by decide +kernel
theorem dX0_giveLeast_6 : decode cX0_giveLeast 6 = .ok (.if_icmp .ge 27, 3) := by decide +kernel
theorem dX0_giveLeast_9 : decode cX0_giveLeast 9 = .ok (.aload_n 0, 1) := by decide +kernel
theorem dX0_giveLeast_10 : decode cX0_giveLeast 10 = .ok (.getfield 9, 3) := by decide +kernel
theorem dX0_giveLeast_13 : decode cX0_giveLeast 13 = .ok (.iload_n 1, 1) := by decide +kernel
theorem dX0_giveLeast_14 : decode cX0_giveLeast 14 = .ok (.baload, 1) := by decide +kernel
theorem dX0_giveLeast_15 : decode cX0_giveLeast 15 = .ok (.ifCond .ne 12, 3) := by decide +kernel
theorem dX0_giveLeast_18 : decode cX0_giveLeast 18 = .ok (.aload_n 0, 1) := by decide +kernel
theorem dX0_giveLeast_19 : decode cX0_giveLeast 19 = .ok (.getfield 9, 3) := by decide +kernel
theorem dX0_giveLeast_22 : decode cX0_giveLeast 22 = .ok (.iload_n 1, 1) := by decide +kernel
theorem dX0_giveLeast_23 : decode cX0_giveLeast 23 = .ok (.iconst 1, 1) := by decide +kernel
theorem dX0_giveLeast_24 : decode cX0_giveLeast 24 = .ok (.bastore, 1) := by decide +kernel
theorem dX0_giveLeast_25 : decode cX0_giveLeast 25 = .ok (.iload_n 1, 1) := by decide +kernel
theorem dX0_giveLeast_26 : decode cX0_giveLeast 26 = .ok (.ireturn, 1) := by decide +kernel
theorem dX0_giveLeast_27 : decode cX0_giveLeast 27 = .ok (.iinc 1 1, 3) := by decide +kernel
theorem dX0_giveLeast_30 : decode cX0_giveLeast 30 = .ok (.goto (-27), 3) := by decide +kernel
theorem dX0_giveLeast_33 : decode cX0_giveLeast 33 = .ok (.iconst (-1), 1) := by decide +kernel
theorem dX0_giveLeast_34 : decode cX0_giveLeast 34 = .ok (.ireturn, 1) := by decide +kernel
theorem dX0_untaken_0 : decode cX0_untaken 0 = .ok (.iconst 0, 1) := by decide +kernel
theorem dX0_untaken_1 : decode cX0_untaken 1 = .ok (.istore_n 1, 1) := by decide +kernel
theorem dX0_untaken_2 : decode cX0_untaken 2 = .ok (.iconst 0, 1) := by decide +kernel
theorem dX0_untaken_3 : decode cX0_untaken 3 = .ok (.istore_n 2, 1) := by decide +kernel
theorem dX0_untaken_4 : decode cX0_untaken 4 = .ok (.iload_n 2, 1) := by decide +kernel
theorem dX0_untaken_5 : decode cX0_untaken 5 = .ok (.bipush 64, 2) := by decide +kernel
theorem dX0_untaken_7 : decode cX0_untaken 7 = .ok (.if_icmp .ge 21, 3) := by decide +kernel
theorem dX0_untaken_10 : decode cX0_untaken 10 = .ok (.aload_n 0, 1) := by decide +kernel
theorem dX0_untaken_11 : decode cX0_untaken 11 = .ok (.getfield 9, 3) := by decide +kernel
theorem dX0_untaken_14 : decode cX0_untaken 14 = .ok (.iload_n 2, 1) := by decide +kernel
theorem dX0_untaken_15 : decode cX0_untaken 15 = .ok (.baload, 1) := by decide +kernel
theorem dX0_untaken_16 : decode cX0_untaken 16 = .ok (.ifCond .ne 6, 3) := by decide +kernel
theorem dX0_untaken_19 : decode cX0_untaken 19 = .ok (.iinc 1 1, 3) := by decide +kernel
theorem dX0_untaken_22 : decode cX0_untaken 22 = .ok (.iinc 2 1, 3) := by decide +kernel
theorem dX0_untaken_25 : decode cX0_untaken 25 = .ok (.goto (-21), 3) := by decide +kernel
theorem dX0_untaken_28 : decode cX0_untaken 28 = .ok (.iload_n 1, 1) := by decide +kernel
theorem dX0_untaken_29 : decode cX0_untaken 29 = .ok (.ireturn, 1) := by decide +kernel
theorem dX1_init_0 : decode cX1_init 0 = .ok (.aload_n 0, 1) := by decide +kernel
theorem dX1_init_1 : decode cX1_init 1 = .ok (.invokespecial 3, 3) := by decide +kernel
theorem dX1_init_4 : decode cX1_init 4 = .ok (.aload_n 0, 1) := by decide +kernel
theorem dX1_init_5 : decode cX1_init 5 = .ok (.bipush 6, 2) := by decide +kernel
theorem dX1_init_7 : decode cX1_init 7 = .ok (.newarray .int, 2) := by decide +kernel
theorem dX1_init_9 : decode cX1_init 9 = .ok (.putfield 9, 3) := by decide +kernel
theorem dX1_init_12 : decode cX1_init 12 = .ok (.aload_n 0, 1) := by decide +kernel
theorem dX1_init_13 : decode cX1_init 13 = .ok (.bipush 7, 2) := by decide +kernel
theorem dX1_init_15 : decode cX1_init 15 = .ok (.newarray .int, 2) := by decide +kernel
theorem dX1_init_17 : decode cX1_init 17 = .ok (.putfield 15, 3) := by decide +kernel
theorem dX1_init_20 : decode cX1_init 20 = .ok (.iconst 0, 1) := by decide +kernel
theorem dX1_init_21 : decode cX1_init 21 = .ok (.istore_n 1, 1) := by decide +kernel
theorem dX1_init_22 : decode cX1_init 22 = .ok (.iload_n 1, 1) := by decide +kernel
theorem dX1_init_23 : decode cX1_init 23 = .ok (.bipush 6, 2) := by decide +kernel
theorem dX1_init_25 : decode cX1_init 25 = .ok (.if_icmp .ge 17, 3) := by decide +kernel
theorem dX1_init_28 : decode cX1_init 28 = .ok (.aload_n 0, 1) := by decide +kernel
theorem dX1_init_29 : decode cX1_init 29 = .ok (.getfield 9, 3) := by decide +kernel
theorem dX1_init_32 : decode cX1_init 32 = .ok (.iload_n 1, 1) := by decide +kernel
theorem dX1_init_33 : decode cX1_init 33 = .ok (.bipush 32, 2) := by decide +kernel
theorem dX1_init_35 : decode cX1_init 35 = .ok (.iastore, 1) := by decide +kernel
theorem dX1_init_36 : decode cX1_init 36 = .ok (.iinc 1 1, 3) := by decide +kernel
theorem dX1_init_39 : decode cX1_init 39 = .ok (.goto (-17), 3) := by decide +kernel
theorem dX1_init_42 : decode cX1_init 42 = .ok (.return_, 1) := by decide +kernel
theorem dX1_beginStretch_0 : decode cX1_beginStretch 0 = .ok (.aload_n 0, 1) := by decide +kernel
theorem dX1_beginStretch_1 : decode cX1_beginStretch 1 = .ok (.iload_n 1, 1) := by decide +kernel
theorem dX1_beginStretch_2 : decode cX1_beginStretch 2 = .ok (.putfield 18, 3) := by decide +kernel
theorem dX1_beginStretch_5 : decode cX1_beginStretch 5 = .ok (.aload_n 0, 1) := by decide +kernel
theorem dX1_beginStretch_6 : decode cX1_beginStretch 6 = .ok (.iconst 0, 1) := by decide +kernel
theorem dX1_beginStretch_7 : decode cX1_beginStretch 7 = .ok (.putfield 22, 3) := by decide +kernel
theorem dX1_beginStretch_10 : decode cX1_beginStretch 10 = .ok (.aload_n 0, 1) := by decide +kernel
theorem dX1_beginStretch_11 : decode cX1_beginStretch 11 = .ok (.iconst 0, 1) := by decide +kernel
theorem dX1_beginStretch_12 : decode cX1_beginStretch 12 = .ok (.putfield 25, 3) := by decide +kernel
theorem dX1_beginStretch_15 : decode cX1_beginStretch 15 = .ok (.iconst 0, 1) := by decide +kernel
theorem dX1_beginStretch_16 : decode cX1_beginStretch 16 = .ok (.istore_n 2, 1) := by decide +kernel
theorem dX1_beginStretch_17 : decode cX1_beginStretch 17 = .ok (.iload_n 2, 1) := by decide +kernel
theorem dX1_beginStretch_18 : decode cX1_beginStretch 18 = .ok (.bipush 7, 2) := by decide +kernel
theorem dX1_beginStretch_20 : decode cX1_beginStretch 20 = .ok (.if_icmp .ge 16, 3) := by decide +kernel
theorem dX1_beginStretch_23 : decode cX1_beginStretch 23 = .ok (.aload_n 0, 1) := by decide +kernel
theorem dX1_beginStretch_24 : decode cX1_beginStretch 24 = .ok (.getfield 15, 3) := by decide +kernel
theorem dX1_beginStretch_27 : decode cX1_beginStretch 27 = .ok (.iload_n 2, 1) := by decide +kernel
theorem dX1_beginStretch_28 : decode cX1_beginStretch 28 = .ok (.iconst 0, 1) := by decide +kernel
theorem dX1_beginStretch_29 : decode cX1_beginStretch 29 = .ok (.iastore, 1) := by decide +kernel
theorem dX1_beginStretch_30 : decode cX1_beginStretch 30 = .ok (.iinc 2 1, 3) := by decide +kernel
theorem dX1_beginStretch_33 : decode cX1_beginStretch 33 = .ok (.goto (-16), 3) := by decide +kernel
theorem dX1_beginStretch_36 : decode cX1_beginStretch 36 = .ok (.return_, 1) := by decide +kernel
theorem dX1_recordAt_0 : decode cX1_recordAt 0 = .ok (.aload_n 0, 1) := by decide +kernel
theorem dX1_recordAt_1 : decode cX1_recordAt 1 = .ok (.getfield 15, 3) := by decide +kernel
theorem dX1_recordAt_4 : decode cX1_recordAt 4 = .ok (.iload_n 1, 1) := by decide +kernel
theorem dX1_recordAt_5 : decode cX1_recordAt 5 = .ok (.iconst 4, 1) := by decide +kernel
theorem dX1_recordAt_6 : decode cX1_recordAt 6 = .ok (.idiv, 1) := by decide +kernel
theorem dX1_recordAt_7 : decode cX1_recordAt 7 = .ok (.iaload, 1) := by decide +kernel
theorem dX1_recordAt_8 : decode cX1_recordAt 8 = .ok (.bipush 64, 2) := by decide +kernel
theorem dX1_recordAt_10 : decode cX1_recordAt 10 = .ok (.irem, 1) := by decide +kernel
theorem dX1_recordAt_11 : decode cX1_recordAt 11 = .ok (.iconst 4, 1) := by decide +kernel
theorem dX1_recordAt_12 : decode cX1_recordAt 12 = .ok (.imul, 1) := by decide +kernel
theorem dX1_recordAt_13 : decode cX1_recordAt 13 = .ok (.iload_n 1, 1) := by decide +kernel
theorem dX1_recordAt_14 : decode cX1_recordAt 14 = .ok (.iconst 4, 1) := by decide +kernel
theorem dX1_recordAt_15 : decode cX1_recordAt 15 = .ok (.irem, 1) := by decide +kernel
theorem dX1_recordAt_16 : decode cX1_recordAt 16 = .ok (.iadd, 1) := by decide +kernel
theorem dX1_recordAt_17 : decode cX1_recordAt 17 = .ok (.ireturn, 1) := by decide +kernel
theorem dX2_init_0 : decode cX2_init 0 = .ok (.aload_n 0, 1) := by decide +kernel
theorem dX2_init_1 : decode cX2_init 1 = .ok (.invokespecial 3, 3) := by decide +kernel
theorem dX2_init_4 : decode cX2_init 4 = .ok (.aload_n 0, 1) := by decide +kernel
theorem dX2_init_5 : decode cX2_init 5 = .ok (.bipush 16, 2) := by decide +kernel
theorem dX2_init_7 : decode cX2_init 7 = .ok (.newarray .int, 2) := by decide +kernel
theorem dX2_init_9 : decode cX2_init 9 = .ok (.putfield 9, 3) := by decide +kernel
theorem dX2_init_12 : decode cX2_init 12 = .ok (.aload_n 0, 1) := by decide +kernel
theorem dX2_init_13 : decode cX2_init 13 = .ok (.bipush 64, 2) := by decide +kernel
theorem dX2_init_15 : decode cX2_init 15 = .ok (.newarray .int, 2) := by decide +kernel
theorem dX2_init_17 : decode cX2_init 17 = .ok (.putfield 15, 3) := by decide +kernel
theorem dX2_init_20 : decode cX2_init 20 = .ok (.aload_n 0, 1) := by decide +kernel
theorem dX2_init_21 : decode cX2_init 21 = .ok (.aload_n 1, 1) := by decide +kernel
theorem dX2_init_22 : decode cX2_init 22 = .ok (.putfield 18, 3) := by decide +kernel
theorem dX2_init_25 : decode cX2_init 25 = .ok (.iconst 0, 1) := by decide +kernel
theorem dX2_init_26 : decode cX2_init 26 = .ok (.istore_n 2, 1) := by decide +kernel
theorem dX2_init_27 : decode cX2_init 27 = .ok (.iload_n 2, 1) := by decide +kernel
theorem dX2_init_28 : decode cX2_init 28 = .ok (.bipush 32, 2) := by decide +kernel
theorem dX2_init_30 : decode cX2_init 30 = .ok (.if_icmp .ge 23, 3) := by decide +kernel
theorem dX2_init_33 : decode cX2_init 33 = .ok (.aload_n 1, 1) := by decide +kernel
theorem dX2_init_34 : decode cX2_init 34 = .ok (.getfield 22, 3) := by decide +kernel
theorem dX2_init_37 : decode cX2_init 37 = .ok (.iload_n 2, 1) := by decide +kernel
theorem dX2_init_38 : decode cX2_init 38 = .ok (.bipush 16, 2) := by decide +kernel
theorem dX2_init_40 : decode cX2_init 40 = .ok (.imul, 1) := by decide +kernel
theorem dX2_init_41 : decode cX2_init 41 = .ok (.iconst 0, 1) := by decide +kernel
theorem dX2_init_42 : decode cX2_init 42 = .ok (.iadd, 1) := by decide +kernel
theorem dX2_init_43 : decode cX2_init 43 = .ok (.sipush 229, 3) := by decide +kernel
theorem dX2_init_46 : decode cX2_init 46 = .ok (.iastore, 1) := by decide +kernel
theorem dX2_init_47 : decode cX2_init 47 = .ok (.iinc 2 1, 3) := by decide +kernel
theorem dX2_init_50 : decode cX2_init 50 = .ok (.goto (-23), 3) := by decide +kernel
theorem dX2_init_53 : decode cX2_init 53 = .ok (.return_, 1) := by decide +kernel
theorem dX2_byteAt_0 : decode cX2_byteAt 0 = .ok (.aload_n 0, 1) := by decide +kernel
theorem dX2_byteAt_1 : decode cX2_byteAt 1 = .ok (.getfield 18, 3) := by decide +kernel
theorem dX2_byteAt_4 : decode cX2_byteAt 4 = .ok (.getfield 22, 3) := by decide +kernel
theorem dX2_byteAt_7 : decode cX2_byteAt 7 = .ok (.iload_n 1, 1) := by decide +kernel
theorem dX2_byteAt_8 : decode cX2_byteAt 8 = .ok (.bipush 16, 2) := by decide +kernel
theorem dX2_byteAt_10 : decode cX2_byteAt 10 = .ok (.imul, 1) := by decide +kernel
theorem dX2_byteAt_11 : decode cX2_byteAt 11 = .ok (.iload_n 2, 1) := by decide +kernel
theorem dX2_byteAt_12 : decode cX2_byteAt 12 = .ok (.iadd, 1) := by decide +kernel
theorem dX2_byteAt_13 : decode cX2_byteAt 13 = .ok (.iaload, 1) := by decide +kernel
theorem dX2_byteAt_14 : decode cX2_byteAt 14 = .ok (.ireturn, 1) := by decide +kernel
set_option maxRecDepth 20000 in
theorem ggX2_blockNumber_X2_byteAt : GoodIn wsX2_blockNumber wsX2_byteAt := goodIn_r _ [5, 6, 7, 8, 9, 10, 11, 12, 13, 14] (by decide +kernel) (by decide +kernel)
set_option maxRecDepth 20000 in
theorem gX2_blockNumber_X2_byteAt : GoodIn wsX2_blockNumber (wsV RX2 27 RX2 yX2_byteAt wsX2_byteAt) := goodIn_app (goodIn_of _ (by decide +kernel)) ggX2_blockNumber_X2_byteAt
theorem dX2_blockNumber_0 : decode cX2_blockNumber 0 = .ok (.aload_n 0, 1) := by decide +kernel
theorem dX2_blockNumber_1 : decode cX2_blockNumber 1 = .ok (.iload_n 1, 1) := by decide +kernel
theorem dX2_blockNumber_2 : decode cX2_blockNumber 2 = .ok (.bipush 9, 2) := by decide +kernel
theorem dX2_blockNumber_4 : decode cX2_blockNumber 4 = .ok (.iload_n 2, 1) := by decide +kernel
theorem dX2_blockNumber_5 : decode cX2_blockNumber 5 = .ok (.iadd, 1) := by decide +kernel
theorem dX2_blockNumber_6 : decode cX2_blockNumber 6 = .ok (.invokevirtual 27, 3) := by decide +kernel
theorem dX2_blockNumber_9 : decode cX2_blockNumber 9 = .ok (.ireturn, 1) := by decide +kernel
set_option maxRecDepth 20000 in
theorem ggX2_isFree_X2_byteAt : GoodIn wsX2_isFree wsX2_byteAt := goodIn_r _ [5, 6, 7, 8, 9, 10, 11, 12, 13, 14] (by decide +kernel) (by decide +kernel)
set_option maxRecDepth 20000 in
theorem gX2_isFree_X2_byteAt : GoodIn wsX2_isFree (wsV RX2 27 RX2 yX2_byteAt wsX2_byteAt) := goodIn_app (goodIn_of _ (by decide +kernel)) ggX2_isFree_X2_byteAt
theorem dX2_isFree_0 : decode cX2_isFree 0 = .ok (.aload_n 0, 1) := by decide +kernel
theorem dX2_isFree_1 : decode cX2_isFree 1 = .ok (.iload_n 1, 1) := by decide +kernel
theorem dX2_isFree_2 : decode cX2_isFree 2 = .ok (.iconst 0, 1) := by decide +kernel
theorem dX2_isFree_3 : decode cX2_isFree 3 = .ok (.invokevirtual 27, 3) := by decide +kernel
theorem dX2_isFree_6 : decode cX2_isFree 6 = .ok (.bipush 16, 2) := by decide +kernel
theorem dX2_isFree_8 : decode cX2_isFree 8 = .ok (.if_icmp .lt 7, 3) := by decide +kernel
theorem dX2_isFree_11 : decode cX2_isFree 11 = .ok (.iconst 1, 1) := by decide +kernel
theorem dX2_isFree_12 : decode cX2_isFree 12 = .ok (.goto 4, 3) := by decide +kernel
theorem dX2_isFree_15 : decode cX2_isFree 15 = .ok (.iconst 0, 1) := by decide +kernel
theorem dX2_isFree_16 : decode cX2_isFree 16 = .ok (.ireturn, 1) := by decide +kernel
set_option maxRecDepth 20000 in
theorem ggX2_isReadOnly_X2_byteAt : GoodIn wsX2_isReadOnly wsX2_byteAt := goodIn_r _ [5, 6, 7, 8, 9, 10, 11, 12, 13, 14] (by decide +kernel) (by decide +kernel)
set_option maxRecDepth 20000 in
theorem gX2_isReadOnly_X2_byteAt : GoodIn wsX2_isReadOnly (wsV RX2 27 RX2 yX2_byteAt wsX2_byteAt) := goodIn_app (goodIn_of _ (by decide +kernel)) ggX2_isReadOnly_X2_byteAt
theorem dX2_isReadOnly_0 : decode cX2_isReadOnly 0 = .ok (.aload_n 0, 1) := by decide +kernel
theorem dX2_isReadOnly_1 : decode cX2_isReadOnly 1 = .ok (.iload_n 1, 1) := by decide +kernel
theorem dX2_isReadOnly_2 : decode cX2_isReadOnly 2 = .ok (.iconst 5, 1) := by decide +kernel
theorem dX2_isReadOnly_3 : decode cX2_isReadOnly 3 = .ok (.invokevirtual 27, 3) := by decide +kernel
theorem dX2_isReadOnly_6 : decode cX2_isReadOnly 6 = .ok (.sipush 128, 3) := by decide +kernel
theorem dX2_isReadOnly_9 : decode cX2_isReadOnly 9 = .ok (.iand, 1) := by decide +kernel
theorem dX2_isReadOnly_10 : decode cX2_isReadOnly 10 = .ok (.ifCond .eq 7, 3) := by decide +kernel
theorem dX2_isReadOnly_13 : decode cX2_isReadOnly 13 = .ok (.iconst 1, 1) := by decide +kernel
theorem dX2_isReadOnly_14 : decode cX2_isReadOnly 14 = .ok (.goto 4, 3) := by decide +kernel
theorem dX2_isReadOnly_17 : decode cX2_isReadOnly 17 = .ok (.iconst 0, 1) := by decide +kernel
theorem dX2_isReadOnly_18 : decode cX2_isReadOnly 18 = .ok (.ireturn, 1) := by decide +kernel
set_option maxRecDepth 20000 in
theorem ggX2_fits_X2_byteAt : GoodIn wsX2_fits wsX2_byteAt := goodIn_r _ [6, 7, 8, 9, 10, 11, 19, 20, 21, 22] (by decide +kernel) (by decide +kernel)
set_option maxRecDepth 20000 in
theorem gX2_fits_X2_byteAt : GoodIn wsX2_fits (wsV RX2 27 RX2 yX2_byteAt wsX2_byteAt) := goodIn_app (goodIn_of _ (by decide +kernel)) ggX2_fits_X2_byteAt
theorem dX2_fits_0 : decode cX2_fits 0 = .ok (.aload_n 0, 1) := by decide +kernel
theorem dX2_fits_1 : decode cX2_fits 1 = .ok (.iload_n 1, 1) := by decide +kernel
theorem dX2_fits_2 : decode cX2_fits 2 = .ok (.iconst 0, 1) := by decide +kernel
theorem dX2_fits_3 : decode cX2_fits 3 = .ok (.invokevirtual 27, 3) := by decide +kernel
theorem dX2_fits_6 : decode cX2_fits 6 = .ok (.aload_n 0, 1) := by decide +kernel
theorem dX2_fits_7 : decode cX2_fits 7 = .ok (.getfield 31, 3) := by decide +kernel
theorem dX2_fits_10 : decode cX2_fits 10 = .ok (.if_icmp .eq 5, 3) := by decide +kernel
theorem dX2_fits_13 : decode cX2_fits 13 = .ok (.iconst 0, 1) := by decide +kernel
theorem dX2_fits_14 : decode cX2_fits 14 = .ok (.ireturn, 1) := by decide +kernel
theorem dX2_fits_15 : decode cX2_fits 15 = .ok (.iconst 0, 1) := by decide +kernel
theorem dX2_fits_16 : decode cX2_fits 16 = .ok (.istore_n 3, 1) := by decide +kernel
theorem dX2_fits_17 : decode cX2_fits 17 = .ok (.iload_n 3, 1) := by decide +kernel
theorem dX2_fits_18 : decode cX2_fits 18 = .ok (.bipush 6, 2) := by decide +kernel
theorem dX2_fits_20 : decode cX2_fits 20 = .ok (.if_icmp .ge 46, 3) := by decide +kernel
theorem dX2_fits_23 : decode cX2_fits 23 = .ok (.aload_n 0, 1) := by decide +kernel
theorem dX2_fits_24 : decode cX2_fits 24 = .ok (.iload_n 1, 1) := by decide +kernel
theorem dX2_fits_25 : decode cX2_fits 25 = .ok (.iconst 1, 1) := by decide +kernel
theorem dX2_fits_26 : decode cX2_fits 26 = .ok (.iload_n 3, 1) := by decide +kernel
theorem dX2_fits_27 : decode cX2_fits 27 = .ok (.iadd, 1) := by decide +kernel
theorem dX2_fits_28 : decode cX2_fits 28 = .ok (.invokevirtual 27, 3) := by decide +kernel
theorem dX2_fits_31 : decode cX2_fits 31 = .ok (.bipush 127, 2) := by decide +kernel
theorem dX2_fits_33 : decode cX2_fits 33 = .ok (.iand, 1) := by decide +kernel
theorem dX2_fits_34 : decode cX2_fits 34 = .ok (.istore 4, 2) := by decide +kernel
theorem dX2_fits_36 : decode cX2_fits 36 = .ok (.aload_n 2, 1) := by decide +kernel
theorem dX2_fits_37 : decode cX2_fits 37 = .ok (.getfield 35, 3) := by decide +kernel
theorem dX2_fits_40 : decode cX2_fits 40 = .ok (.iload_n 3, 1) := by decide +kernel
theorem dX2_fits_41 : decode cX2_fits 41 = .ok (.iaload, 1) := by decide +kernel
theorem dX2_fits_42 : decode cX2_fits 42 = .ok (.bipush 63, 2) := by decide +kernel
theorem dX2_fits_44 : decode cX2_fits 44 = .ok (.if_icmp .eq 16, 3) := by decide +kernel
theorem dX2_fits_47 : decode cX2_fits 47 = .ok (.aload_n 2, 1) := by decide +kernel
theorem dX2_fits_48 : decode cX2_fits 48 = .ok (.getfield 35, 3) := by decide +kernel
theorem dX2_fits_51 : decode cX2_fits 51 = .ok (.iload_n 3, 1) := by decide +kernel
theorem dX2_fits_52 : decode cX2_fits 52 = .ok (.iaload, 1) := by decide +kernel
theorem dX2_fits_53 : decode cX2_fits 53 = .ok (.iload 4, 2) := by decide +kernel
theorem dX2_fits_55 : decode cX2_fits 55 = .ok (.if_icmp .eq 5, 3) := by decide +kernel
theorem dX2_fits_58 : decode cX2_fits 58 = .ok (.iconst 0, 1) := by decide +kernel
theorem dX2_fits_59 : decode cX2_fits 59 = .ok (.ireturn, 1) := by decide +kernel
theorem dX2_fits_60 : decode cX2_fits 60 = .ok (.iinc 3 1, 3) := by decide +kernel
theorem dX2_fits_63 : decode cX2_fits 63 = .ok (.goto (-46), 3) := by decide +kernel
theorem dX2_fits_66 : decode cX2_fits 66 = .ok (.iconst 1, 1) := by decide +kernel
theorem dX2_fits_67 : decode cX2_fits 67 = .ok (.ireturn, 1) := by decide +kernel
set_option maxRecDepth 20000 in
theorem ggX2_firstFrom_X2_fits : GoodIn wsX2_firstFrom wsX2_fits := goodIn_r _ [5, 6, 7, 8, 9, 4, 10, 11, 12, 13, 14, 15, 16, 17, 18, 19, 20, 21, 22, 23, 24, 25, 26] (by decide +kernel) (by decide +kernel)
set_option maxRecDepth 20000 in
theorem gX2_firstFrom_X2_fits : GoodIn wsX2_firstFrom (wsV RX2 40 RX2 yX2_fits wsX2_fits) := goodIn_app (goodIn_of _ (by decide +kernel)) ggX2_firstFrom_X2_fits
theorem dX2_firstFrom_0 : decode cX2_firstFrom 0 = .ok (.iload_n 2, 1) := by decide +kernel
theorem dX2_firstFrom_1 : decode cX2_firstFrom 1 = .ok (.istore_n 3, 1) := by decide +kernel
theorem dX2_firstFrom_2 : decode cX2_firstFrom 2 = .ok (.iload_n 3, 1) := by decide +kernel
theorem dX2_firstFrom_3 : decode cX2_firstFrom 3 = .ok (.bipush 32, 2) := by decide +kernel
theorem dX2_firstFrom_5 : decode cX2_firstFrom 5 = .ok (.if_icmp .ge 20, 3) := by decide +kernel
theorem dX2_firstFrom_8 : decode cX2_firstFrom 8 = .ok (.aload_n 0, 1) := by decide +kernel
theorem dX2_firstFrom_9 : decode cX2_firstFrom 9 = .ok (.iload_n 3, 1) := by decide +kernel
theorem dX2_firstFrom_10 : decode cX2_firstFrom 10 = .ok (.aload_n 1, 1) := by decide +kernel
theorem dX2_firstFrom_11 : decode cX2_firstFrom 11 = .ok (.invokevirtual 40, 3) := by decide +kernel
theorem dX2_firstFrom_14 : decode cX2_firstFrom 14 = .ok (.ifCond .eq 5, 3) := by decide +kernel
theorem dX2_firstFrom_17 : decode cX2_firstFrom 17 = .ok (.iload_n 3, 1) := by decide +kernel
theorem dX2_firstFrom_18 : decode cX2_firstFrom 18 = .ok (.ireturn, 1) := by decide +kernel
theorem dX2_firstFrom_19 : decode cX2_firstFrom 19 = .ok (.iinc 3 1, 3) := by decide +kernel
theorem dX2_firstFrom_22 : decode cX2_firstFrom 22 = .ok (.goto (-20), 3) := by decide +kernel
theorem dX2_firstFrom_25 : decode cX2_firstFrom 25 = .ok (.iconst (-1), 1) := by decide +kernel
theorem dX2_firstFrom_26 : decode cX2_firstFrom 26 = .ok (.ireturn, 1) := by decide +kernel
set_option maxRecDepth 20000 in
theorem ggX2_firstOfStretch_X2_byteAt : GoodIn wsX2_firstOfStretch wsX2_byteAt := goodIn_r _ [5, 6, 12, 13, 14, 15, 16, 17, 18, 19] (by decide +kernel) (by decide +kernel)
set_option maxRecDepth 20000 in
theorem gX2_firstOfStretch_X2_byteAt : GoodIn wsX2_firstOfStretch (wsV RX2 27 RX2 yX2_byteAt wsX2_byteAt) := goodIn_app (goodIn_of _ (by decide +kernel)) ggX2_firstOfStretch_X2_byteAt
set_option maxRecDepth 20000 in
theorem ggX2_firstOfStretch_X2_fits : GoodIn wsX2_firstOfStretch wsX2_fits := goodIn_r _ [10, 11, 1, 2, 3, 4, 5, 6, 12, 13, 14, 15, 20, 21, 22, 23, 24, 25, 26, 16, 17, 18, 19] (by decide +kernel) (by decide +kernel)
set_option maxRecDepth 20000 in
theorem gX2_firstOfStretch_X2_fits : GoodIn wsX2_firstOfStretch (wsV RX2 40 RX2 yX2_fits wsX2_fits) := goodIn_app (goodIn_of _ (by decide +kernel)) ggX2_firstOfStretch_X2_fits
theorem dX2_firstOfStretch_0 : decode cX2_firstOfStretch 0 = .ok (.iconst 0, 1) := by decide +kernel
theorem dX2_firstOfStretch_1 : decode cX2_firstOfStretch 1 = .ok (.istore_n 3, 1) := by decide +kernel
theorem dX2_firstOfStretch_2 : decode cX2_firstOfStretch 2 = .ok (.iload_n 3, 1) := by decide +kernel
theorem dX2_firstOfStretch_3 : decode cX2_firstOfStretch 3 = .ok (.bipush 32, 2) := by decide +kernel
theorem dX2_firstOfStretch_5 : decode cX2_firstOfStretch 5 = .ok (.if_icmp .ge 31, 3) := by decide +kernel
theorem dX2_firstOfStretch_8 : decode cX2_firstOfStretch 8 = .ok (.aload_n 0, 1) := by decide +kernel
theorem dX2_firstOfStretch_9 : decode cX2_firstOfStretch 9 = .ok (.iload_n 3, 1) := by decide +kernel
theorem dX2_firstOfStretch_10 : decode cX2_firstOfStretch 10 = .ok (.bipush 7, 2) := by decide +kernel
theorem dX2_firstOfStretch_12 : decode cX2_firstOfStretch 12 = .ok (.invokevirtual 27, 3) := by decide +kernel
theorem dX2_firstOfStretch_15 : decode cX2_firstOfStretch 15 = .ok (.iload_n 2, 1) := by decide +kernel
theorem dX2_firstOfStretch_16 : decode cX2_firstOfStretch 16 = .ok (.if_icmp .ne 14, 3) := by decide +kernel
theorem dX2_firstOfStretch_19 : decode cX2_firstOfStretch 19 = .ok (.aload_n 0, 1) := by decide +kernel
theorem dX2_firstOfStretch_20 : decode cX2_firstOfStretch 20 = .ok (.iload_n 3, 1) := by decide +kernel
theorem dX2_firstOfStretch_21 : decode cX2_firstOfStretch 21 = .ok (.aload_n 1, 1) := by decide +kernel
theorem dX2_firstOfStretch_22 : decode cX2_firstOfStretch 22 = .ok (.invokevirtual 40, 3) := by decide +kernel
theorem dX2_firstOfStretch_25 : decode cX2_firstOfStretch 25 = .ok (.ifCond .eq 5, 3) := by decide +kernel
theorem dX2_firstOfStretch_28 : decode cX2_firstOfStretch 28 = .ok (.iload_n 3, 1) := by decide +kernel
theorem dX2_firstOfStretch_29 : decode cX2_firstOfStretch 29 = .ok (.ireturn, 1) := by decide +kernel
theorem dX2_firstOfStretch_30 : decode cX2_firstOfStretch 30 = .ok (.iinc 3 1, 3) := by decide +kernel
theorem dX2_firstOfStretch_33 : decode cX2_firstOfStretch 33 = .ok (.goto (-31), 3) := by decide +kernel
theorem dX2_firstOfStretch_36 : decode cX2_firstOfStretch 36 = .ok (.iconst (-1), 1) := by decide +kernel
theorem dX2_firstOfStretch_37 : decode cX2_firstOfStretch 37 = .ok (.ireturn, 1) := by decide +kernel
set_option maxRecDepth 20000 in
theorem ggX2_firstFree_X2_isFree : GoodIn wsX2_firstFree wsX2_isFree := goodIn_r _ [5, 6, 7, 8, 4, 9, 10, 11, 12, 13, 14, 15, 16, 17, 18] (by decide +kernel) (by decide +kernel)
set_option maxRecDepth 20000 in
theorem gX2_firstFree_X2_isFree : GoodIn wsX2_firstFree (wsV RX2 44 RX2 yX2_isFree wsX2_isFree) := goodIn_app (goodIn_of _ (by decide +kernel)) ggX2_firstFree_X2_isFree
theorem dX2_firstFree_0 : decode cX2_firstFree 0 = .ok (.iconst 0, 1) := by decide +kernel
theorem dX2_firstFree_1 : decode cX2_firstFree 1 = .ok (.istore_n 1, 1) := by decide +kernel
theorem dX2_firstFree_2 : decode cX2_firstFree 2 = .ok (.iload_n 1, 1) := by decide +kernel
theorem dX2_firstFree_3 : decode cX2_firstFree 3 = .ok (.bipush 32, 2) := by decide +kernel
theorem dX2_firstFree_5 : decode cX2_firstFree 5 = .ok (.if_icmp .ge 19, 3) := by decide +kernel
theorem dX2_firstFree_8 : decode cX2_firstFree 8 = .ok (.aload_n 0, 1) := by decide +kernel
theorem dX2_firstFree_9 : decode cX2_firstFree 9 = .ok (.iload_n 1, 1) := by decide +kernel
theorem dX2_firstFree_10 : decode cX2_firstFree 10 = .ok (.invokevirtual 44, 3) := by decide +kernel
theorem dX2_firstFree_13 : decode cX2_firstFree 13 = .ok (.ifCond .eq 5, 3) := by decide +kernel
theorem dX2_firstFree_16 : decode cX2_firstFree 16 = .ok (.iload_n 1, 1) := by decide +kernel
theorem dX2_firstFree_17 : decode cX2_firstFree 17 = .ok (.ireturn, 1) := by decide +kernel
theorem dX2_firstFree_18 : decode cX2_firstFree 18 = .ok (.iinc 1 1, 3) := by decide +kernel
theorem dX2_firstFree_21 : decode cX2_firstFree 21 = .ok (.goto (-19), 3) := by decide +kernel
theorem dX2_firstFree_24 : decode cX2_firstFree 24 = .ok (.iconst (-1), 1) := by decide +kernel
theorem dX2_firstFree_25 : decode cX2_firstFree 25 = .ok (.ireturn, 1) := by decide +kernel
set_option maxRecDepth 20000 in
theorem ggX2_freeEntries_X2_isFree : GoodIn wsX2_freeEntries wsX2_isFree := goodIn_r _ [5, 6, 7, 8, 4, 9, 10, 11, 12, 13, 14, 15, 16, 17, 18] (by decide +kernel) (by decide +kernel)
set_option maxRecDepth 20000 in
theorem gX2_freeEntries_X2_isFree : GoodIn wsX2_freeEntries (wsV RX2 44 RX2 yX2_isFree wsX2_isFree) := goodIn_app (goodIn_of _ (by decide +kernel)) ggX2_freeEntries_X2_isFree
theorem dX2_freeEntries_0 : decode cX2_freeEntries 0 = .ok (.iconst 0, 1) := by decide +kernel
theorem dX2_freeEntries_1 : decode cX2_freeEntries 1 = .ok (.istore_n 1, 1) := by decide +kernel
theorem dX2_freeEntries_2 : decode cX2_freeEntries 2 = .ok (.iconst 0, 1) := by decide +kernel
theorem dX2_freeEntries_3 : decode cX2_freeEntries 3 = .ok (.istore_n 2, 1) := by decide +kernel
theorem dX2_freeEntries_4 : decode cX2_freeEntries 4 = .ok (.iload_n 2, 1) := by decide +kernel
theorem dX2_freeEntries_5 : decode cX2_freeEntries 5 = .ok (.bipush 32, 2) := by decide +kernel
theorem dX2_freeEntries_7 : decode cX2_freeEntries 7 = .ok (.if_icmp .ge 20, 3) := by decide +kernel
theorem dX2_freeEntries_10 : decode cX2_freeEntries 10 = .ok (.aload_n 0, 1) := by decide +kernel
theorem dX2_freeEntries_11 : decode cX2_freeEntries 11 = .ok (.iload_n 2, 1) := by decide +kernel
theorem dX2_freeEntries_12 : decode cX2_freeEntries 12 = .ok (.invokevirtual 44, 3) := by decide +kernel
theorem dX2_freeEntries_15 : decode cX2_freeEntries 15 = .ok (.ifCond .eq 6, 3) := by decide +kernel
theorem dX2_freeEntries_18 : decode cX2_freeEntries 18 = .ok (.iinc 1 1, 3) := by decide +kernel
theorem dX2_freeEntries_21 : decode cX2_freeEntries 21 = .ok (.iinc 2 1, 3) := by decide +kernel
theorem dX2_freeEntries_24 : decode cX2_freeEntries 24 = .ok (.goto (-20), 3) := by decide +kernel
theorem dX2_freeEntries_27 : decode cX2_freeEntries 27 = .ok (.iload_n 1, 1) := by decide +kernel
theorem dX2_freeEntries_28 : decode cX2_freeEntries 28 = .ok (.ireturn, 1) := by decide +kernel
set_option maxRecDepth 20000 in
theorem ggX2_hasReadOnly_X2_isReadOnly : GoodIn wsX2_hasReadOnly wsX2_isReadOnly := goodIn_r _ [5, 6, 7, 8, 4, 9, 10, 16, 17, 18, 19, 20, 21, 22, 23] (by decide +kernel) (by decide +kernel)
set_option maxRecDepth 20000 in
theorem gX2_hasReadOnly_X2_isReadOnly : GoodIn wsX2_hasReadOnly (wsV RX2 48 RX2 yX2_isReadOnly wsX2_isReadOnly) := goodIn_app (goodIn_of _ (by decide +kernel)) ggX2_hasReadOnly_X2_isReadOnly
set_option maxRecDepth 20000 in
theorem ggX2_hasReadOnly_X2_fits : GoodIn wsX2_hasReadOnly wsX2_fits := goodIn_r _ [14, 15, 6, 7, 8, 4, 9, 10, 16, 17, 18, 19, 24, 25, 26, 27, 28, 29, 30, 20, 21, 22, 23] (by decide +kernel) (by decide +kernel)
set_option maxRecDepth 20000 in
theorem gX2_hasReadOnly_X2_fits : GoodIn wsX2_hasReadOnly (wsV RX2 40 RX2 yX2_fits wsX2_fits) := goodIn_app (goodIn_of _ (by decide +kernel)) ggX2_hasReadOnly_X2_fits
theorem dX2_hasReadOnly_0 : decode cX2_hasReadOnly 0 = .ok (.iconst 0, 1) := by decide +kernel
theorem dX2_hasReadOnly_1 : decode cX2_hasReadOnly 1 = .ok (.istore_n 2, 1) := by decide +kernel
theorem dX2_hasReadOnly_2 : decode cX2_hasReadOnly 2 = .ok (.iload_n 2, 1) := by decide +kernel
theorem dX2_hasReadOnly_3 : decode cX2_hasReadOnly 3 = .ok (.bipush 32, 2) := by decide +kernel
theorem dX2_hasReadOnly_5 : decode cX2_hasReadOnly 5 = .ok (.if_icmp .ge 28, 3) := by decide +kernel
theorem dX2_hasReadOnly_8 : decode cX2_hasReadOnly 8 = .ok (.aload_n 0, 1) := by decide +kernel
theorem dX2_hasReadOnly_9 : decode cX2_hasReadOnly 9 = .ok (.iload_n 2, 1) := by decide +kernel
theorem dX2_hasReadOnly_10 : decode cX2_hasReadOnly 10 = .ok (.invokevirtual 48, 3) := by decide +kernel
theorem dX2_hasReadOnly_13 : decode cX2_hasReadOnly 13 = .ok (.ifCond .eq 14, 3) := by decide +kernel
theorem dX2_hasReadOnly_16 : decode cX2_hasReadOnly 16 = .ok (.aload_n 0, 1) := by decide +kernel
theorem dX2_hasReadOnly_17 : decode cX2_hasReadOnly 17 = .ok (.iload_n 2, 1) := by decide +kernel
theorem dX2_hasReadOnly_18 : decode cX2_hasReadOnly 18 = .ok (.aload_n 1, 1) := by decide +kernel
theorem dX2_hasReadOnly_19 : decode cX2_hasReadOnly 19 = .ok (.invokevirtual 40, 3) := by decide +kernel
theorem dX2_hasReadOnly_22 : decode cX2_hasReadOnly 22 = .ok (.ifCond .eq 5, 3) := by decide +kernel
theorem dX2_hasReadOnly_25 : decode cX2_hasReadOnly 25 = .ok (.iconst 1, 1) := by decide +kernel
theorem dX2_hasReadOnly_26 : decode cX2_hasReadOnly 26 = .ok (.ireturn, 1) := by decide +kernel
theorem dX2_hasReadOnly_27 : decode cX2_hasReadOnly 27 = .ok (.iinc 2 1, 3) := by decide +kernel
theorem dX2_hasReadOnly_30 : decode cX2_hasReadOnly 30 = .ok (.goto (-28), 3) := by decide +kernel
theorem dX2_hasReadOnly_33 : decode cX2_hasReadOnly 33 = .ok (.iconst 0, 1) := by decide +kernel
theorem dX2_hasReadOnly_34 : decode cX2_hasReadOnly 34 = .ok (.ireturn, 1) := by decide +kernel
set_option maxRecDepth 20000 in
theorem ggX2_greatestEnd_X2_fits : GoodIn wsX2_greatestEnd wsX2_fits := goodIn_r _ [9, 10, 11, 12, 13, 8, 14, 15, 16, 17, 18, 19, 20, 21, 22, 23, 24, 25, 26, 27, 28, 29, 30] (by decide +kernel) (by decide +kernel)
set_option maxRecDepth 20000 in
theorem gX2_greatestEnd_X2_fits : GoodIn wsX2_greatestEnd (wsV RX2 40 RX2 yX2_fits wsX2_fits) := goodIn_app (goodIn_of _ (by decide +kernel)) ggX2_greatestEnd_X2_fits
set_option maxRecDepth 20000 in
theorem ggX2_greatestEnd_X2_byteAt : GoodIn wsX2_greatestEnd wsX2_byteAt := goodIn_r _ [14, 15, 16, 17, 18, 19, 27, 28, 29, 30] (by decide +kernel) (by decide +kernel)
set_option maxRecDepth 20000 in
theorem gX2_greatestEnd_X2_byteAt : GoodIn wsX2_greatestEnd (wsV RX2 27 RX2 yX2_byteAt wsX2_byteAt) := goodIn_app (goodIn_of _ (by decide +kernel)) ggX2_greatestEnd_X2_byteAt
theorem dX2_greatestEnd_0 : decode cX2_greatestEnd 0 = .ok (.iconst 0, 1) := by decide +kernel
theorem dX2_greatestEnd_1 : decode cX2_greatestEnd 1 = .ok (.istore_n 2, 1) := by decide +kernel
theorem dX2_greatestEnd_2 : decode cX2_greatestEnd 2 = .ok (.iconst 0, 1) := by decide +kernel
theorem dX2_greatestEnd_3 : decode cX2_greatestEnd 3 = .ok (.istore_n 3, 1) := by decide +kernel
theorem dX2_greatestEnd_4 : decode cX2_greatestEnd 4 = .ok (.iload_n 3, 1) := by decide +kernel
theorem dX2_greatestEnd_5 : decode cX2_greatestEnd 5 = .ok (.bipush 32, 2) := by decide +kernel
theorem dX2_greatestEnd_7 : decode cX2_greatestEnd 7 = .ok (.if_icmp .ge 45, 3) := by decide +kernel
theorem dX2_greatestEnd_10 : decode cX2_greatestEnd 10 = .ok (.aload_n 0, 1) := by decide +kernel
theorem dX2_greatestEnd_11 : decode cX2_greatestEnd 11 = .ok (.iload_n 3, 1) := by decide +kernel
theorem dX2_greatestEnd_12 : decode cX2_greatestEnd 12 = .ok (.aload_n 1, 1) := by decide +kernel
theorem dX2_greatestEnd_13 : decode cX2_greatestEnd 13 = .ok (.invokevirtual 40, 3) := by decide +kernel
theorem dX2_greatestEnd_16 : decode cX2_greatestEnd 16 = .ok (.ifCond .eq 30, 3) := by decide +kernel
theorem dX2_greatestEnd_19 : decode cX2_greatestEnd 19 = .ok (.bipush 28, 2) := by decide +kernel
theorem dX2_greatestEnd_21 : decode cX2_greatestEnd 21 = .ok (.aload_n 0, 1) := by decide +kernel
theorem dX2_greatestEnd_22 : decode cX2_greatestEnd 22 = .ok (.iload_n 3, 1) := by decide +kernel
theorem dX2_greatestEnd_23 : decode cX2_greatestEnd 23 = .ok (.bipush 7, 2) := by decide +kernel
theorem dX2_greatestEnd_25 : decode cX2_greatestEnd 25 = .ok (.invokevirtual 27, 3) := by decide +kernel
theorem dX2_greatestEnd_28 : decode cX2_greatestEnd 28 = .ok (.imul, 1) := by decide +kernel
theorem dX2_greatestEnd_29 : decode cX2_greatestEnd 29 = .ok (.aload_n 0, 1) := by decide +kernel
theorem dX2_greatestEnd_30 : decode cX2_greatestEnd 30 = .ok (.iload_n 3, 1) := by decide +kernel
theorem dX2_greatestEnd_31 : decode cX2_greatestEnd 31 = .ok (.bipush 8, 2) := by decide +kernel
theorem dX2_greatestEnd_33 : decode cX2_greatestEnd 33 = .ok (.invokevirtual 27, 3) := by decide +kernel
theorem dX2_greatestEnd_36 : decode cX2_greatestEnd 36 = .ok (.iadd, 1) := by decide +kernel
theorem dX2_greatestEnd_37 : decode cX2_greatestEnd 37 = .ok (.istore 4, 2) := by decide +kernel
theorem dX2_greatestEnd_39 : decode cX2_greatestEnd 39 = .ok (.iload_n 2, 1) := by decide +kernel
theorem dX2_greatestEnd_40 : decode cX2_greatestEnd 40 = .ok (.iload 4, 2) := by decide +kernel
theorem dX2_greatestEnd_42 : decode cX2_greatestEnd 42 = .ok (.invokestatic 51, 3) := by decide +kernel
theorem dX2_greatestEnd_45 : decode cX2_greatestEnd 45 = .ok (.istore_n 2, 1) := by decide +kernel
theorem dX2_greatestEnd_46 : decode cX2_greatestEnd 46 = .ok (.iinc 3 1, 3) := by decide +kernel
theorem dX2_greatestEnd_49 : decode cX2_greatestEnd 49 = .ok (.goto (-45), 3) := by decide +kernel
theorem dX2_greatestEnd_52 : decode cX2_greatestEnd 52 = .ok (.iload_n 2, 1) := by decide +kernel
theorem dX2_greatestEnd_53 : decode cX2_greatestEnd 53 = .ok (.ireturn, 1) := by decide +kernel
set_option maxRecDepth 20000 in
theorem ggX2_blocksToldTwice_X2_countTellers : GoodIn wsX2_blocksToldTwice wsX2_countTellers := goodIn_r _ [6, 1, 7, 8, 9, 5, 10, 11, 12, 13, 14, 15, 16, 17, 18, 19, 20, 21, 22, 23, 24, 25, 26, 27, 28, 29, 30, 31] (by decide +kernel) (by decide +kernel)
set_option maxRecDepth 20000 in
theorem gX2_blocksToldTwice_X2_countTellers : GoodIn wsX2_blocksToldTwice (wsV RX2 56 RX2 yX2_countTellers wsX2_countTellers) := goodIn_app (goodIn_of _ (by decide +kernel)) ggX2_blocksToldTwice_X2_countTellers
theorem dX2_blocksToldTwice_0 : decode cX2_blocksToldTwice 0 = .ok (.aload_n 0, 1) := by decide +kernel
theorem dX2_blocksToldTwice_1 : decode cX2_blocksToldTwice 1 = .ok (.invokevirtual 56, 3) := by decide +kernel
theorem dX2_blocksToldTwice_4 : decode cX2_blocksToldTwice 4 = .ok (.iconst 0, 1) := by decide +kernel
theorem dX2_blocksToldTwice_5 : decode cX2_blocksToldTwice 5 = .ok (.istore_n 1, 1) := by decide +kernel
theorem dX2_blocksToldTwice_6 : decode cX2_blocksToldTwice 6 = .ok (.bipush 8, 2) := by decide +kernel
theorem dX2_blocksToldTwice_8 : decode cX2_blocksToldTwice 8 = .ok (.istore_n 2, 1) := by decide +kernel
theorem dX2_blocksToldTwice_9 : decode cX2_blocksToldTwice 9 = .ok (.iload_n 2, 1) := by decide +kernel
theorem dX2_blocksToldTwice_10 : decode cX2_blocksToldTwice 10 = .ok (.bipush 64, 2) := by decide +kernel
theorem dX2_blocksToldTwice_12 : decode cX2_blocksToldTwice 12 = .ok (.if_icmp .ge 22, 3) := by decide +kernel
theorem dX2_blocksToldTwice_15 : decode cX2_blocksToldTwice 15 = .ok (.aload_n 0, 1) := by decide +kernel
theorem dX2_blocksToldTwice_16 : decode cX2_blocksToldTwice 16 = .ok (.getfield 15, 3) := by decide +kernel
theorem dX2_blocksToldTwice_19 : decode cX2_blocksToldTwice 19 = .ok (.iload_n 2, 1) := by decide +kernel
theorem dX2_blocksToldTwice_20 : decode cX2_blocksToldTwice 20 = .ok (.iaload, 1) := by decide +kernel
theorem dX2_blocksToldTwice_21 : decode cX2_blocksToldTwice 21 = .ok (.iconst 1, 1) := by decide +kernel
theorem dX2_blocksToldTwice_22 : decode cX2_blocksToldTwice 22 = .ok (.if_icmp .le 6, 3) := by decide +kernel
theorem dX2_blocksToldTwice_25 : decode cX2_blocksToldTwice 25 = .ok (.iinc 1 1, 3) := by decide +kernel
theorem dX2_blocksToldTwice_28 : decode cX2_blocksToldTwice 28 = .ok (.iinc 2 1, 3) := by decide +kernel
theorem dX2_blocksToldTwice_31 : decode cX2_blocksToldTwice 31 = .ok (.goto (-22), 3) := by decide +kernel
theorem dX2_blocksToldTwice_34 : decode cX2_blocksToldTwice 34 = .ok (.iload_n 1, 1) := by decide +kernel
theorem dX2_blocksToldTwice_35 : decode cX2_blocksToldTwice 35 = .ok (.ireturn, 1) := by decide +kernel
set_option maxRecDepth 20000 in
theorem ggX2_countTellers_X2_isFree : GoodIn wsX2_countTellers wsX2_isFree := goodIn_r _ [6, 7, 8, 9, 5, 10, 11, 20, 21, 22, 23, 24, 25, 26, 27] (by decide +kernel) (by decide +kernel)
set_option maxRecDepth 20000 in
theorem gX2_countTellers_X2_isFree : GoodIn wsX2_countTellers (wsV RX2 44 RX2 yX2_isFree wsX2_isFree) := goodIn_app (goodIn_of _ (by decide +kernel)) ggX2_countTellers_X2_isFree
set_option maxRecDepth 20000 in
theorem ggX2_countTellers_X2_countBlocks : GoodIn wsX2_countTellers wsX2_countBlocks := goodIn_r _ [15, 1, 16, 17, 18, 5, 19, 7, 8, 9, 10, 11, 20, 21, 22, 23, 24, 25, 26, 27] (by decide +kernel) (by decide +kernel)
set_option maxRecDepth 20000 in
theorem gX2_countTellers_X2_countBlocks : GoodIn wsX2_countTellers (wsV RX2 59 RX2 yX2_countBlocks wsX2_countBlocks) := goodIn_app (goodIn_of _ (by decide +kernel)) ggX2_countTellers_X2_countBlocks
theorem dX2_countTellers_0 : decode cX2_countTellers 0 = .ok (.iconst 0, 1) := by decide +kernel
theorem dX2_countTellers_1 : decode cX2_countTellers 1 = .ok (.istore_n 1, 1) := by decide +kernel
theorem dX2_countTellers_2 : decode cX2_countTellers 2 = .ok (.iload_n 1, 1) := by decide +kernel
theorem dX2_countTellers_3 : decode cX2_countTellers 3 = .ok (.bipush 64, 2) := by decide +kernel
theorem dX2_countTellers_5 : decode cX2_countTellers 5 = .ok (.if_icmp .ge 16, 3) := by decide +kernel
theorem dX2_countTellers_8 : decode cX2_countTellers 8 = .ok (.aload_n 0, 1) := by decide +kernel
theorem dX2_countTellers_9 : decode cX2_countTellers 9 = .ok (.getfield 15, 3) := by decide +kernel
theorem dX2_countTellers_12 : decode cX2_countTellers 12 = .ok (.iload_n 1, 1) := by decide +kernel
theorem dX2_countTellers_13 : decode cX2_countTellers 13 = .ok (.iconst 0, 1) := by decide +kernel
theorem dX2_countTellers_14 : decode cX2_countTellers 14 = .ok (.iastore, 1) := by decide +kernel
theorem dX2_countTellers_15 : decode cX2_countTellers 15 = .ok (.iinc 1 1, 3) := by decide +kernel
theorem dX2_countTellers_18 : decode cX2_countTellers 18 = .ok (.goto (-16), 3) := by decide +kernel
theorem dX2_countTellers_21 : decode cX2_countTellers 21 = .ok (.iconst 0, 1) := by decide +kernel
theorem dX2_countTellers_22 : decode cX2_countTellers 22 = .ok (.istore_n 1, 1) := by decide +kernel
theorem dX2_countTellers_23 : decode cX2_countTellers 23 = .ok (.iload_n 1, 1) := by decide +kernel
theorem dX2_countTellers_24 : decode cX2_countTellers 24 = .ok (.bipush 32, 2) := by decide +kernel
theorem dX2_countTellers_26 : decode cX2_countTellers 26 = .ok (.if_icmp .ge 22, 3) := by decide +kernel
theorem dX2_countTellers_29 : decode cX2_countTellers 29 = .ok (.aload_n 0, 1) := by decide +kernel
theorem dX2_countTellers_30 : decode cX2_countTellers 30 = .ok (.iload_n 1, 1) := by decide +kernel
theorem dX2_countTellers_31 : decode cX2_countTellers 31 = .ok (.invokevirtual 44, 3) := by decide +kernel
theorem dX2_countTellers_34 : decode cX2_countTellers 34 = .ok (.ifCond .ne 8, 3) := by decide +kernel
theorem dX2_countTellers_37 : decode cX2_countTellers 37 = .ok (.aload_n 0, 1) := by decide +kernel
theorem dX2_countTellers_38 : decode cX2_countTellers 38 = .ok (.iload_n 1, 1) := by decide +kernel
theorem dX2_countTellers_39 : decode cX2_countTellers 39 = .ok (.invokevirtual 59, 3) := by decide +kernel
theorem dX2_countTellers_42 : decode cX2_countTellers 42 = .ok (.iinc 1 1, 3) := by decide +kernel
theorem dX2_countTellers_45 : decode cX2_countTellers 45 = .ok (.goto (-22), 3) := by decide +kernel
theorem dX2_countTellers_48 : decode cX2_countTellers 48 = .ok (.return_, 1) := by decide +kernel
set_option maxRecDepth 20000 in
theorem ggX2_countBlocks_X2_blockNumber : GoodIn wsX2_countBlocks wsX2_blockNumber := goodIn_r _ [6, 7, 8, 9, 5, 10, 11, 12, 13, 14, 15, 16, 17, 18, 19] (by decide +kernel) (by decide +kernel)
set_option maxRecDepth 20000 in
theorem gX2_countBlocks_X2_blockNumber : GoodIn wsX2_countBlocks (wsV RX2 63 RX2 yX2_blockNumber wsX2_blockNumber) := goodIn_app (goodIn_of _ (by decide +kernel)) ggX2_countBlocks_X2_blockNumber
theorem dX2_countBlocks_0 : decode cX2_countBlocks 0 = .ok (.iconst 0, 1) := by decide +kernel
theorem dX2_countBlocks_1 : decode cX2_countBlocks 1 = .ok (.istore_n 2, 1) := by decide +kernel
theorem dX2_countBlocks_2 : decode cX2_countBlocks 2 = .ok (.iload_n 2, 1) := by decide +kernel
theorem dX2_countBlocks_3 : decode cX2_countBlocks 3 = .ok (.bipush 7, 2) := by decide +kernel
theorem dX2_countBlocks_5 : decode cX2_countBlocks 5 = .ok (.if_icmp .ge 27, 3) := by decide +kernel
theorem dX2_countBlocks_8 : decode cX2_countBlocks 8 = .ok (.aload_n 0, 1) := by decide +kernel
theorem dX2_countBlocks_9 : decode cX2_countBlocks 9 = .ok (.getfield 15, 3) := by decide +kernel
theorem dX2_countBlocks_12 : decode cX2_countBlocks 12 = .ok (.aload_n 0, 1) := by decide +kernel
theorem dX2_countBlocks_13 : decode cX2_countBlocks 13 = .ok (.iload_n 1, 1) := by decide +kernel
theorem dX2_countBlocks_14 : decode cX2_countBlocks 14 = .ok (.iload_n 2, 1) := by decide +kernel
theorem dX2_countBlocks_15 : decode cX2_countBlocks 15 = .ok (.invokevirtual 63, 3) := by decide +kernel
theorem dX2_countBlocks_18 : decode cX2_countBlocks 18 = .ok (.bipush 64, 2) := by decide +kernel
theorem dX2_countBlocks_20 : decode cX2_countBlocks 20 = .ok (.irem, 1) := by decide +kernel
theorem dX2_countBlocks_21 : decode cX2_countBlocks 21 = .ok (.dup2, 1) := by decide +kernel
theorem dX2_countBlocks_22 : decode cX2_countBlocks 22 = .ok (.iaload, 1) := by decide +kernel
theorem dX2_countBlocks_23 : decode cX2_countBlocks 23 = .ok (.iconst 1, 1) := by decide +kernel
theorem dX2_countBlocks_24 : decode cX2_countBlocks 24 = .ok (.iadd, 1) := by decide +kernel
theorem dX2_countBlocks_25 : decode cX2_countBlocks 25 = .ok (.iastore, 1) := by decide +kernel
theorem dX2_countBlocks_26 : decode cX2_countBlocks 26 = .ok (.iinc 2 1, 3) := by decide +kernel
theorem dX2_countBlocks_29 : decode cX2_countBlocks 29 = .ok (.goto (-27), 3) := by decide +kernel
theorem dX2_countBlocks_32 : decode cX2_countBlocks 32 = .ok (.return_, 1) := by decide +kernel
set_option maxRecDepth 20000 in
theorem ggX2_fetchStretch_X2_byteAt : GoodIn wsX2_fetchStretch wsX2_byteAt := goodIn_r _ [5, 6, 18, 19, 20, 21, 22, 23, 24, 25] (by decide +kernel) (by decide +kernel)
set_option maxRecDepth 20000 in
theorem gX2_fetchStretch_X2_byteAt : GoodIn wsX2_fetchStretch (wsV RX2 27 RX2 yX2_byteAt wsX2_byteAt) := goodIn_app (goodIn_of _ (by decide +kernel)) ggX2_fetchStretch_X2_byteAt
set_option maxRecDepth 20000 in
theorem ggX2_fetchStretch_X2_blockNumber : GoodIn wsX2_fetchStretch wsX2_blockNumber := goodIn_r _ [10, 1, 2, 3, 4, 5, 6, 18, 19, 20, 21, 22, 23, 24, 25] (by decide +kernel) (by decide +kernel)
set_option maxRecDepth 20000 in
theorem gX2_fetchStretch_X2_blockNumber : GoodIn wsX2_fetchStretch (wsV RX2 63 RX2 yX2_blockNumber wsX2_blockNumber) := goodIn_app (goodIn_of _ (by decide +kernel)) ggX2_fetchStretch_X2_blockNumber
theorem dX2_fetchStretch_0 : decode cX2_fetchStretch 0 = .ok (.aload_n 2, 1) := by decide +kernel
theorem dX2_fetchStretch_1 : decode cX2_fetchStretch 1 = .ok (.aload_n 0, 1) := by decide +kernel
theorem dX2_fetchStretch_2 : decode cX2_fetchStretch 2 = .ok (.iload_n 1, 1) := by decide +kernel
theorem dX2_fetchStretch_3 : decode cX2_fetchStretch 3 = .ok (.bipush 7, 2) := by decide +kernel
theorem dX2_fetchStretch_5 : decode cX2_fetchStretch 5 = .ok (.invokevirtual 27, 3) := by decide +kernel
theorem dX2_fetchStretch_8 : decode cX2_fetchStretch 8 = .ok (.putfield 66, 3) := by decide +kernel
theorem dX2_fetchStretch_11 : decode cX2_fetchStretch 11 = .ok (.aload_n 2, 1) := by decide +kernel
theorem dX2_fetchStretch_12 : decode cX2_fetchStretch 12 = .ok (.aload_n 0, 1) := by decide +kernel
theorem dX2_fetchStretch_13 : decode cX2_fetchStretch 13 = .ok (.iload_n 1, 1) := by decide +kernel
theorem dX2_fetchStretch_14 : decode cX2_fetchStretch 14 = .ok (.bipush 8, 2) := by decide +kernel
theorem dX2_fetchStretch_16 : decode cX2_fetchStretch 16 = .ok (.invokevirtual 27, 3) := by decide +kernel
theorem dX2_fetchStretch_19 : decode cX2_fetchStretch 19 = .ok (.putfield 69, 3) := by decide +kernel
theorem dX2_fetchStretch_22 : decode cX2_fetchStretch 22 = .ok (.aload_n 2, 1) := by decide +kernel
theorem dX2_fetchStretch_23 : decode cX2_fetchStretch 23 = .ok (.iconst 0, 1) := by decide +kernel
theorem dX2_fetchStretch_24 : decode cX2_fetchStretch 24 = .ok (.putfield 72, 3) := by decide +kernel
theorem dX2_fetchStretch_27 : decode cX2_fetchStretch 27 = .ok (.iconst 0, 1) := by decide +kernel
theorem dX2_fetchStretch_28 : decode cX2_fetchStretch 28 = .ok (.istore_n 3, 1) := by decide +kernel
theorem dX2_fetchStretch_29 : decode cX2_fetchStretch 29 = .ok (.iload_n 3, 1) := by decide +kernel
theorem dX2_fetchStretch_30 : decode cX2_fetchStretch 30 = .ok (.bipush 7, 2) := by decide +kernel
theorem dX2_fetchStretch_32 : decode cX2_fetchStretch 32 = .ok (.if_icmp .ge 21, 3) := by decide +kernel
theorem dX2_fetchStretch_35 : decode cX2_fetchStretch 35 = .ok (.aload_n 2, 1) := by decide +kernel
theorem dX2_fetchStretch_36 : decode cX2_fetchStretch 36 = .ok (.getfield 75, 3) := by decide +kernel
theorem dX2_fetchStretch_39 : decode cX2_fetchStretch 39 = .ok (.iload_n 3, 1) := by decide +kernel
theorem dX2_fetchStretch_40 : decode cX2_fetchStretch 40 = .ok (.aload_n 0, 1) := by decide +kernel
theorem dX2_fetchStretch_41 : decode cX2_fetchStretch 41 = .ok (.iload_n 1, 1) := by decide +kernel
theorem dX2_fetchStretch_42 : decode cX2_fetchStretch 42 = .ok (.iload_n 3, 1) := by decide +kernel
theorem dX2_fetchStretch_43 : decode cX2_fetchStretch 43 = .ok (.invokevirtual 63, 3) := by decide +kernel
theorem dX2_fetchStretch_46 : decode cX2_fetchStretch 46 = .ok (.iastore, 1) := by decide +kernel
theorem dX2_fetchStretch_47 : decode cX2_fetchStretch 47 = .ok (.iinc 3 1, 3) := by decide +kernel
theorem dX2_fetchStretch_50 : decode cX2_fetchStretch 50 = .ok (.goto (-21), 3) := by decide +kernel
theorem dX2_fetchStretch_53 : decode cX2_fetchStretch 53 = .ok (.return_, 1) := by decide +kernel
set_option maxRecDepth 20000 in
theorem ggX2_makeEntry_X2_putDraft : GoodIn wsX2_makeEntry wsX2_putDraft := goodIn_r _ [7, 1, 8, 9, 10, 11, 12, 13, 14, 15, 16, 17, 18, 19, 20, 21, 22, 23, 24, 25, 26, 27, 28, 29, 30, 31] (by decide +kernel) (by decide +kernel)
set_option maxRecDepth 20000 in
theorem gX2_makeEntry_X2_putDraft : GoodIn wsX2_makeEntry (wsV RX2 78 RX2 yX2_putDraft wsX2_putDraft) := goodIn_app (goodIn_of _ (by decide +kernel)) ggX2_makeEntry_X2_putDraft
theorem dX2_makeEntry_0 : decode cX2_makeEntry 0 = .ok (.aload_n 0, 1) := by decide +kernel
theorem dX2_makeEntry_1 : decode cX2_makeEntry 1 = .ok (.getfield 9, 3) := by decide +kernel
theorem dX2_makeEntry_4 : decode cX2_makeEntry 4 = .ok (.iconst 0, 1) := by decide +kernel
theorem dX2_makeEntry_5 : decode cX2_makeEntry 5 = .ok (.aload_n 0, 1) := by decide +kernel
theorem dX2_makeEntry_6 : decode cX2_makeEntry 6 = .ok (.getfield 31, 3) := by decide +kernel
theorem dX2_makeEntry_9 : decode cX2_makeEntry 9 = .ok (.iastore, 1) := by decide +kernel
theorem dX2_makeEntry_10 : decode cX2_makeEntry 10 = .ok (.iconst 0, 1) := by decide +kernel
theorem dX2_makeEntry_11 : decode cX2_makeEntry 11 = .ok (.istore_n 3, 1) := by decide +kernel
theorem dX2_makeEntry_12 : decode cX2_makeEntry 12 = .ok (.iload_n 3, 1) := by decide +kernel
theorem dX2_makeEntry_13 : decode cX2_makeEntry 13 = .ok (.bipush 6, 2) := by decide +kernel
theorem dX2_makeEntry_15 : decode cX2_makeEntry 15 = .ok (.if_icmp .ge 23, 3) := by decide +kernel
theorem dX2_makeEntry_18 : decode cX2_makeEntry 18 = .ok (.aload_n 0, 1) := by decide +kernel
theorem dX2_makeEntry_19 : decode cX2_makeEntry 19 = .ok (.getfield 9, 3) := by decide +kernel
theorem dX2_makeEntry_22 : decode cX2_makeEntry 22 = .ok (.iconst 1, 1) := by decide +kernel
theorem dX2_makeEntry_23 : decode cX2_makeEntry 23 = .ok (.iload_n 3, 1) := by decide +kernel
theorem dX2_makeEntry_24 : decode cX2_makeEntry 24 = .ok (.iadd, 1) := by decide +kernel
theorem dX2_makeEntry_25 : decode cX2_makeEntry 25 = .ok (.aload_n 2, 1) := by decide +kernel
theorem dX2_makeEntry_26 : decode cX2_makeEntry 26 = .ok (.getfield 35, 3) := by decide +kernel
theorem dX2_makeEntry_29 : decode cX2_makeEntry 29 = .ok (.iload_n 3, 1) := by decide +kernel
theorem dX2_makeEntry_30 : decode cX2_makeEntry 30 = .ok (.iaload, 1) := by decide +kernel
theorem dX2_makeEntry_31 : decode cX2_makeEntry 31 = .ok (.iastore, 1) := by decide +kernel
theorem dX2_makeEntry_32 : decode cX2_makeEntry 32 = .ok (.iinc 3 1, 3) := by decide +kernel
theorem dX2_makeEntry_35 : decode cX2_makeEntry 35 = .ok (.goto (-23), 3) := by decide +kernel
theorem dX2_makeEntry_38 : decode cX2_makeEntry 38 = .ok (.aload_n 0, 1) := by decide +kernel
theorem dX2_makeEntry_39 : decode cX2_makeEntry 39 = .ok (.getfield 9, 3) := by decide +kernel
theorem dX2_makeEntry_42 : decode cX2_makeEntry 42 = .ok (.bipush 7, 2) := by decide +kernel
theorem dX2_makeEntry_44 : decode cX2_makeEntry 44 = .ok (.aload_n 2, 1) := by decide +kernel
theorem dX2_makeEntry_45 : decode cX2_makeEntry 45 = .ok (.getfield 66, 3) := by decide +kernel
theorem dX2_makeEntry_48 : decode cX2_makeEntry 48 = .ok (.iastore, 1) := by decide +kernel
theorem dX2_makeEntry_49 : decode cX2_makeEntry 49 = .ok (.aload_n 0, 1) := by decide +kernel
theorem dX2_makeEntry_50 : decode cX2_makeEntry 50 = .ok (.iload_n 1, 1) := by decide +kernel
theorem dX2_makeEntry_51 : decode cX2_makeEntry 51 = .ok (.aload_n 2, 1) := by decide +kernel
theorem dX2_makeEntry_52 : decode cX2_makeEntry 52 = .ok (.invokevirtual 78, 3) := by decide +kernel
theorem dX2_makeEntry_55 : decode cX2_makeEntry 55 = .ok (.ireturn, 1) := by decide +kernel
set_option maxRecDepth 20000 in
theorem ggX2_keepStretch_X3_getRow : GoodIn wsX2_keepStretch wsX3_getRow := goodIn_r _ [6, 7, 23, 24, 25, 26] (by decide +kernel) (by decide +kernel)
set_option maxRecDepth 20000 in
theorem gX2_keepStretch_X3_getRow_n81 : GoodIn wsX2_keepStretch (wsX3_getRow) := ggX2_keepStretch_X3_getRow
set_option maxRecDepth 20000 in
theorem ggX2_keepStretch_X2_putDraft : GoodIn wsX2_keepStretch wsX2_putDraft := goodIn_r _ [12, 2, 1, 13, 4, 14, 15, 16, 17, 7, 18, 19, 20, 21, 22, 27, 28, 29, 30, 31, 32, 33, 23, 24, 25, 26] (by decide +kernel) (by decide +kernel)
set_option maxRecDepth 20000 in
theorem gX2_keepStretch_X2_putDraft : GoodIn wsX2_keepStretch (wsV RX2 78 RX2 yX2_putDraft wsX2_putDraft) := goodIn_app (goodIn_of _ (by decide +kernel)) ggX2_keepStretch_X2_putDraft
theorem dX2_keepStretch_0 : decode cX2_keepStretch 0 = .ok (.aload_n 0, 1) := by decide +kernel
theorem dX2_keepStretch_1 : decode cX2_keepStretch 1 = .ok (.getfield 18, 3) := by decide +kernel
theorem dX2_keepStretch_4 : decode cX2_keepStretch 4 = .ok (.iload_n 1, 1) := by decide +kernel
theorem dX2_keepStretch_5 : decode cX2_keepStretch 5 = .ok (.aload_n 0, 1) := by decide +kernel
theorem dX2_keepStretch_6 : decode cX2_keepStretch 6 = .ok (.getfield 9, 3) := by decide +kernel
theorem dX2_keepStretch_9 : decode cX2_keepStretch 9 = .ok (.invokevirtual 81, 3) := by decide +kernel
theorem dX2_keepStretch_12 : decode cX2_keepStretch 12 = .ok (.aload_n 0, 1) := by decide +kernel
theorem dX2_keepStretch_13 : decode cX2_keepStretch 13 = .ok (.iload_n 1, 1) := by decide +kernel
theorem dX2_keepStretch_14 : decode cX2_keepStretch 14 = .ok (.aload_n 2, 1) := by decide +kernel
theorem dX2_keepStretch_15 : decode cX2_keepStretch 15 = .ok (.invokevirtual 78, 3) := by decide +kernel
theorem dX2_keepStretch_18 : decode cX2_keepStretch 18 = .ok (.ireturn, 1) := by decide +kernel
set_option maxRecDepth 20000 in
theorem ggX2_putDraft_X3_putRow : GoodIn wsX2_putDraft wsX3_putRow := goodIn_r _ [6, 7, 8, 9, 10, 22, 23, 24, 25] (by decide +kernel) (by decide +kernel)
set_option maxRecDepth 20000 in
theorem gX2_putDraft_X3_putRow_n85 : GoodIn wsX2_putDraft (wsX3_putRow) := ggX2_putDraft_X3_putRow
theorem dX2_putDraft_0 : decode cX2_putDraft 0 = .ok (.aload_n 0, 1) := by decide +kernel
theorem dX2_putDraft_1 : decode cX2_putDraft 1 = .ok (.getfield 9, 3) := by decide +kernel
theorem dX2_putDraft_4 : decode cX2_putDraft 4 = .ok (.bipush 8, 2) := by decide +kernel
theorem dX2_putDraft_6 : decode cX2_putDraft 6 = .ok (.aload_n 2, 1) := by decide +kernel
theorem dX2_putDraft_7 : decode cX2_putDraft 7 = .ok (.getfield 69, 3) := by decide +kernel
theorem dX2_putDraft_10 : decode cX2_putDraft 10 = .ok (.iastore, 1) := by decide +kernel
theorem dX2_putDraft_11 : decode cX2_putDraft 11 = .ok (.iconst 0, 1) := by decide +kernel
theorem dX2_putDraft_12 : decode cX2_putDraft 12 = .ok (.istore_n 3, 1) := by decide +kernel
theorem dX2_putDraft_13 : decode cX2_putDraft 13 = .ok (.iload_n 3, 1) := by decide +kernel
theorem dX2_putDraft_14 : decode cX2_putDraft 14 = .ok (.bipush 7, 2) := by decide +kernel
theorem dX2_putDraft_16 : decode cX2_putDraft 16 = .ok (.if_icmp .ge 24, 3) := by decide +kernel
theorem dX2_putDraft_19 : decode cX2_putDraft 19 = .ok (.aload_n 0, 1) := by decide +kernel
theorem dX2_putDraft_20 : decode cX2_putDraft 20 = .ok (.getfield 9, 3) := by decide +kernel
theorem dX2_putDraft_23 : decode cX2_putDraft 23 = .ok (.bipush 9, 2) := by decide +kernel
theorem dX2_putDraft_25 : decode cX2_putDraft 25 = .ok (.iload_n 3, 1) := by decide +kernel
theorem dX2_putDraft_26 : decode cX2_putDraft 26 = .ok (.iadd, 1) := by decide +kernel
theorem dX2_putDraft_27 : decode cX2_putDraft 27 = .ok (.aload_n 2, 1) := by decide +kernel
theorem dX2_putDraft_28 : decode cX2_putDraft 28 = .ok (.getfield 75, 3) := by decide +kernel
theorem dX2_putDraft_31 : decode cX2_putDraft 31 = .ok (.iload_n 3, 1) := by decide +kernel
theorem dX2_putDraft_32 : decode cX2_putDraft 32 = .ok (.iaload, 1) := by decide +kernel
theorem dX2_putDraft_33 : decode cX2_putDraft 33 = .ok (.iastore, 1) := by decide +kernel
theorem dX2_putDraft_34 : decode cX2_putDraft 34 = .ok (.iinc 3 1, 3) := by decide +kernel
theorem dX2_putDraft_37 : decode cX2_putDraft 37 = .ok (.goto (-24), 3) := by decide +kernel
theorem dX2_putDraft_40 : decode cX2_putDraft 40 = .ok (.aload_n 0, 1) := by decide +kernel
theorem dX2_putDraft_41 : decode cX2_putDraft 41 = .ok (.getfield 18, 3) := by decide +kernel
theorem dX2_putDraft_44 : decode cX2_putDraft 44 = .ok (.iload_n 1, 1) := by decide +kernel
theorem dX2_putDraft_45 : decode cX2_putDraft 45 = .ok (.aload_n 0, 1) := by decide +kernel
theorem dX2_putDraft_46 : decode cX2_putDraft 46 = .ok (.getfield 9, 3) := by decide +kernel
theorem dX2_putDraft_49 : decode cX2_putDraft 49 = .ok (.invokevirtual 85, 3) := by decide +kernel
theorem dX2_putDraft_52 : decode cX2_putDraft 52 = .ok (.ireturn, 1) := by decide +kernel
set_option maxRecDepth 20000 in
theorem ggX2_freeEntry_X3_getRow : GoodIn wsX2_freeEntry wsX3_getRow := goodIn_r _ [6, 7, 18, 19, 20, 21] (by decide +kernel) (by decide +kernel)
set_option maxRecDepth 20000 in
theorem gX2_freeEntry_X3_getRow_n81 : GoodIn wsX2_freeEntry (wsX3_getRow) := ggX2_freeEntry_X3_getRow
set_option maxRecDepth 20000 in
theorem ggX2_freeEntry_X3_putRow : GoodIn wsX2_freeEntry wsX3_putRow := goodIn_r _ [10, 11, 12, 7, 13, 18, 19, 20, 21] (by decide +kernel) (by decide +kernel)
set_option maxRecDepth 20000 in
theorem gX2_freeEntry_X3_putRow_n85 : GoodIn wsX2_freeEntry (wsX3_putRow) := ggX2_freeEntry_X3_putRow
theorem dX2_freeEntry_0 : decode cX2_freeEntry 0 = .ok (.aload_n 0, 1) := by decide +kernel
theorem dX2_freeEntry_1 : decode cX2_freeEntry 1 = .ok (.getfield 18, 3) := by decide +kernel
theorem dX2_freeEntry_4 : decode cX2_freeEntry 4 = .ok (.iload_n 1, 1) := by decide +kernel
theorem dX2_freeEntry_5 : decode cX2_freeEntry 5 = .ok (.aload_n 0, 1) := by decide +kernel
theorem dX2_freeEntry_6 : decode cX2_freeEntry 6 = .ok (.getfield 9, 3) := by decide +kernel
theorem dX2_freeEntry_9 : decode cX2_freeEntry 9 = .ok (.invokevirtual 81, 3) := by decide +kernel
theorem dX2_freeEntry_12 : decode cX2_freeEntry 12 = .ok (.aload_n 0, 1) := by decide +kernel
theorem dX2_freeEntry_13 : decode cX2_freeEntry 13 = .ok (.getfield 9, 3) := by decide +kernel
theorem dX2_freeEntry_16 : decode cX2_freeEntry 16 = .ok (.iconst 0, 1) := by decide +kernel
theorem dX2_freeEntry_17 : decode cX2_freeEntry 17 = .ok (.sipush 229, 3) := by decide +kernel
theorem dX2_freeEntry_20 : decode cX2_freeEntry 20 = .ok (.iastore, 1) := by decide +kernel
theorem dX2_freeEntry_21 : decode cX2_freeEntry 21 = .ok (.aload_n 0, 1) := by decide +kernel
theorem dX2_freeEntry_22 : decode cX2_freeEntry 22 = .ok (.getfield 18, 3) := by decide +kernel
theorem dX2_freeEntry_25 : decode cX2_freeEntry 25 = .ok (.iload_n 1, 1) := by decide +kernel
theorem dX2_freeEntry_26 : decode cX2_freeEntry 26 = .ok (.aload_n 0, 1) := by decide +kernel
theorem dX2_freeEntry_27 : decode cX2_freeEntry 27 = .ok (.getfield 9, 3) := by decide +kernel
theorem dX2_freeEntry_30 : decode cX2_freeEntry 30 = .ok (.invokevirtual 85, 3) := by decide +kernel
theorem dX2_freeEntry_33 : decode cX2_freeEntry 33 = .ok (.ireturn, 1) := by decide +kernel
set_option maxRecDepth 20000 in
theorem ggX2_nameEntry_X3_getRow : GoodIn wsX2_nameEntry wsX3_getRow := goodIn_r _ [6, 7, 25, 26, 27, 28] (by decide +kernel) (by decide +kernel)
set_option maxRecDepth 20000 in
theorem gX2_nameEntry_X3_getRow_n81 : GoodIn wsX2_nameEntry (wsX3_getRow) := ggX2_nameEntry_X3_getRow
set_option maxRecDepth 20000 in
theorem ggX2_nameEntry_X3_putRow : GoodIn wsX2_nameEntry wsX3_putRow := goodIn_r _ [10, 11, 12, 7, 13, 25, 26, 27, 28] (by decide +kernel) (by decide +kernel)
set_option maxRecDepth 20000 in
theorem gX2_nameEntry_X3_putRow_n85 : GoodIn wsX2_nameEntry (wsX3_putRow) := ggX2_nameEntry_X3_putRow
theorem dX2_nameEntry_0 : decode cX2_nameEntry 0 = .ok (.aload_n 0, 1) := by decide +kernel
theorem dX2_nameEntry_1 : decode cX2_nameEntry 1 = .ok (.getfield 18, 3) := by decide +kernel
theorem dX2_nameEntry_4 : decode cX2_nameEntry 4 = .ok (.iload_n 1, 1) := by decide +kernel
theorem dX2_nameEntry_5 : decode cX2_nameEntry 5 = .ok (.aload_n 0, 1) := by decide +kernel
theorem dX2_nameEntry_6 : decode cX2_nameEntry 6 = .ok (.getfield 9, 3) := by decide +kernel
theorem dX2_nameEntry_9 : decode cX2_nameEntry 9 = .ok (.invokevirtual 81, 3) := by decide +kernel
theorem dX2_nameEntry_12 : decode cX2_nameEntry 12 = .ok (.aload_n 0, 1) := by decide +kernel
theorem dX2_nameEntry_13 : decode cX2_nameEntry 13 = .ok (.getfield 9, 3) := by decide +kernel
theorem dX2_nameEntry_16 : decode cX2_nameEntry 16 = .ok (.iconst 5, 1) := by decide +kernel
theorem dX2_nameEntry_17 : decode cX2_nameEntry 17 = .ok (.iaload, 1) := by decide +kernel
theorem dX2_nameEntry_18 : decode cX2_nameEntry 18 = .ok (.sipush 128, 3) := by decide +kernel
theorem dX2_nameEntry_21 : decode cX2_nameEntry 21 = .ok (.iand, 1) := by decide +kernel
theorem dX2_nameEntry_22 : decode cX2_nameEntry 22 = .ok (.istore_n 3, 1) := by decide +kernel
theorem dX2_nameEntry_23 : decode cX2_nameEntry 23 = .ok (.iconst 0, 1) := by decide +kernel
theorem dX2_nameEntry_24 : decode cX2_nameEntry 24 = .ok (.istore 4, 2) := by decide +kernel
theorem dX2_nameEntry_26 : decode cX2_nameEntry 26 = .ok (.iload 4, 2) := by decide +kernel
theorem dX2_nameEntry_28 : decode cX2_nameEntry 28 = .ok (.bipush 6, 2) := by decide +kernel
theorem dX2_nameEntry_30 : decode cX2_nameEntry 30 = .ok (.if_icmp .ge 25, 3) := by decide +kernel
theorem dX2_nameEntry_33 : decode cX2_nameEntry 33 = .ok (.aload_n 0, 1) := by decide +kernel
theorem dX2_nameEntry_34 : decode cX2_nameEntry 34 = .ok (.getfield 9, 3) := by decide +kernel
theorem dX2_nameEntry_37 : decode cX2_nameEntry 37 = .ok (.iconst 1, 1) := by decide +kernel
theorem dX2_nameEntry_38 : decode cX2_nameEntry 38 = .ok (.iload 4, 2) := by decide +kernel
theorem dX2_nameEntry_40 : decode cX2_nameEntry 40 = .ok (.iadd, 1) := by decide +kernel
theorem dX2_nameEntry_41 : decode cX2_nameEntry 41 = .ok (.aload_n 2, 1) := by decide +kernel
theorem dX2_nameEntry_42 : decode cX2_nameEntry 42 = .ok (.getfield 35, 3) := by decide +kernel
theorem dX2_nameEntry_45 : decode cX2_nameEntry 45 = .ok (.iload 4, 2) := by decide +kernel
theorem dX2_nameEntry_47 : decode cX2_nameEntry 47 = .ok (.iaload, 1) := by decide +kernel
theorem dX2_nameEntry_48 : decode cX2_nameEntry 48 = .ok (.iastore, 1) := by decide +kernel
theorem dX2_nameEntry_49 : decode cX2_nameEntry 49 = .ok (.iinc 4 1, 3) := by decide +kernel
theorem dX2_nameEntry_52 : decode cX2_nameEntry 52 = .ok (.goto (-26), 3) := by decide +kernel
theorem dX2_nameEntry_55 : decode cX2_nameEntry 55 = .ok (.aload_n 0, 1) := by decide +kernel
theorem dX2_nameEntry_56 : decode cX2_nameEntry 56 = .ok (.getfield 9, 3) := by decide +kernel
theorem dX2_nameEntry_59 : decode cX2_nameEntry 59 = .ok (.iconst 5, 1) := by decide +kernel
theorem dX2_nameEntry_60 : decode cX2_nameEntry 60 = .ok (.dup2, 1) := by decide +kernel
theorem dX2_nameEntry_61 : decode cX2_nameEntry 61 = .ok (.iaload, 1) := by decide +kernel
theorem dX2_nameEntry_62 : decode cX2_nameEntry 62 = .ok (.iload_n 3, 1) := by decide +kernel
theorem dX2_nameEntry_63 : decode cX2_nameEntry 63 = .ok (.ior, 1) := by decide +kernel
theorem dX2_nameEntry_64 : decode cX2_nameEntry 64 = .ok (.iastore, 1) := by decide +kernel
theorem dX2_nameEntry_65 : decode cX2_nameEntry 65 = .ok (.aload_n 0, 1) := by decide +kernel
theorem dX2_nameEntry_66 : decode cX2_nameEntry 66 = .ok (.getfield 18, 3) := by decide +kernel
theorem dX2_nameEntry_69 : decode cX2_nameEntry 69 = .ok (.iload_n 1, 1) := by decide +kernel
theorem dX2_nameEntry_70 : decode cX2_nameEntry 70 = .ok (.aload_n 0, 1) := by decide +kernel
theorem dX2_nameEntry_71 : decode cX2_nameEntry 71 = .ok (.getfield 9, 3) := by decide +kernel
theorem dX2_nameEntry_74 : decode cX2_nameEntry 74 = .ok (.invokevirtual 85, 3) := by decide +kernel
theorem dX2_nameEntry_77 : decode cX2_nameEntry 77 = .ok (.ireturn, 1) := by decide +kernel
set_option maxRecDepth 20000 in
theorem ggX2_guardEntry_X3_getRow : GoodIn wsX2_guardEntry wsX3_getRow := goodIn_r _ [6, 7, 18, 19, 20, 21] (by decide +kernel) (by decide +kernel)
set_option maxRecDepth 20000 in
theorem gX2_guardEntry_X3_getRow_n81 : GoodIn wsX2_guardEntry (wsX3_getRow) := ggX2_guardEntry_X3_getRow
set_option maxRecDepth 20000 in
theorem ggX2_guardEntry_X3_putRow : GoodIn wsX2_guardEntry wsX3_putRow := goodIn_r _ [10, 11, 12, 7, 13, 18, 19, 20, 21] (by decide +kernel) (by decide +kernel)
set_option maxRecDepth 20000 in
theorem gX2_guardEntry_X3_putRow_n85 : GoodIn wsX2_guardEntry (wsX3_putRow) := ggX2_guardEntry_X3_putRow
theorem dX2_guardEntry_0 : decode cX2_guardEntry 0 = .ok (.aload_n 0, 1) := by decide +kernel
theorem dX2_guardEntry_1 : decode cX2_guardEntry 1 = .ok (.getfield 18, 3) := by decide +kernel
theorem dX2_guardEntry_4 : decode cX2_guardEntry 4 = .ok (.iload_n 1, 1) := by decide +kernel
theorem dX2_guardEntry_5 : decode cX2_guardEntry 5 = .ok (.aload_n 0, 1) := by decide +kernel
theorem dX2_guardEntry_6 : decode cX2_guardEntry 6 = .ok (.getfield 9, 3) := by decide +kernel
theorem dX2_guardEntry_9 : decode cX2_guardEntry 9 = .ok (.invokevirtual 81, 3) := by decide +kernel
theorem dX2_guardEntry_12 : decode cX2_guardEntry 12 = .ok (.aload_n 0, 1) := by decide +kernel
theorem dX2_guardEntry_13 : decode cX2_guardEntry 13 = .ok (.getfield 9, 3) := by decide +kernel
theorem dX2_guardEntry_16 : decode cX2_guardEntry 16 = .ok (.iconst 5, 1) := by decide +kernel
theorem dX2_guardEntry_17 : decode cX2_guardEntry 17 = .ok (.aload_n 0, 1) := by decide +kernel
theorem dX2_guardEntry_18 : decode cX2_guardEntry 18 = .ok (.getfield 9, 3) := by decide +kernel
theorem dX2_guardEntry_21 : decode cX2_guardEntry 21 = .ok (.iconst 5, 1) := by decide +kernel
theorem dX2_guardEntry_22 : decode cX2_guardEntry 22 = .ok (.iaload, 1) := by decide +kernel
theorem dX2_guardEntry_23 : decode cX2_guardEntry 23 = .ok (.bipush 127, 2) := by decide +kernel
theorem dX2_guardEntry_25 : decode cX2_guardEntry 25 = .ok (.iand, 1) := by decide +kernel
theorem dX2_guardEntry_26 : decode cX2_guardEntry 26 = .ok (.iload_n 2, 1) := by decide +kernel
theorem dX2_guardEntry_27 : decode cX2_guardEntry 27 = .ok (.ifCond .eq 9, 3) := by decide +kernel
theorem dX2_guardEntry_30 : decode cX2_guardEntry 30 = .ok (.sipush 128, 3) := by decide +kernel
theorem dX2_guardEntry_33 : decode cX2_guardEntry 33 = .ok (.goto 4, 3) := by decide +kernel
theorem dX2_guardEntry_36 : decode cX2_guardEntry 36 = .ok (.iconst 0, 1) := by decide +kernel
theorem dX2_guardEntry_37 : decode cX2_guardEntry 37 = .ok (.ior, 1) := by decide +kernel
theorem dX2_guardEntry_38 : decode cX2_guardEntry 38 = .ok (.iastore, 1) := by decide +kernel
theorem dX2_guardEntry_39 : decode cX2_guardEntry 39 = .ok (.aload_n 0, 1) := by decide +kernel
theorem dX2_guardEntry_40 : decode cX2_guardEntry 40 = .ok (.getfield 18, 3) := by decide +kernel
theorem dX2_guardEntry_43 : decode cX2_guardEntry 43 = .ok (.iload_n 1, 1) := by decide +kernel
theorem dX2_guardEntry_44 : decode cX2_guardEntry 44 = .ok (.aload_n 0, 1) := by decide +kernel
theorem dX2_guardEntry_45 : decode cX2_guardEntry 45 = .ok (.getfield 9, 3) := by decide +kernel
theorem dX2_guardEntry_48 : decode cX2_guardEntry 48 = .ok (.invokevirtual 85, 3) := by decide +kernel
theorem dX2_guardEntry_51 : decode cX2_guardEntry 51 = .ok (.ireturn, 1) := by decide +kernel
theorem dX3_init_0 : decode cX3_init 0 = .ok (.aload_n 0, 1) := by decide +kernel
theorem dX3_init_1 : decode cX3_init 1 = .ok (.invokespecial 3, 3) := by decide +kernel
theorem dX3_init_4 : decode cX3_init 4 = .ok (.aload_n 0, 1) := by decide +kernel
theorem dX3_init_5 : decode cX3_init 5 = .ok (.sipush 4096, 3) := by decide +kernel
theorem dX3_init_8 : decode cX3_init 8 = .ok (.newarray .int, 2) := by decide +kernel
theorem dX3_init_10 : decode cX3_init 10 = .ok (.putfield 9, 3) := by decide +kernel
theorem dX3_init_13 : decode cX3_init 13 = .ok (.aload_n 0, 1) := by decide +kernel
theorem dX3_init_14 : decode cX3_init 14 = .ok (.iconst 1, 1) := by decide +kernel
theorem dX3_init_15 : decode cX3_init 15 = .ok (.putfield 15, 3) := by decide +kernel
theorem dX3_init_18 : decode cX3_init 18 = .ok (.return_, 1) := by decide +kernel
theorem dX3_lastForEver_0 : decode cX3_lastForEver 0 = .ok (.aload_n 0, 1) := by decide +kernel
theorem dX3_lastForEver_1 : decode cX3_lastForEver 1 = .ok (.iconst 1, 1) := by decide +kernel
theorem dX3_lastForEver_2 : decode cX3_lastForEver 2 = .ok (.putfield 15, 3) := by decide +kernel
theorem dX3_lastForEver_5 : decode cX3_lastForEver 5 = .ok (.aload_n 0, 1) := by decide +kernel
theorem dX3_lastForEver_6 : decode cX3_lastForEver 6 = .ok (.iconst 0, 1) := by decide +kernel
theorem dX3_lastForEver_7 : decode cX3_lastForEver 7 = .ok (.putfield 19, 3) := by decide +kernel
theorem dX3_lastForEver_10 : decode cX3_lastForEver 10 = .ok (.return_, 1) := by decide +kernel
theorem dX3_lastFor_0 : decode cX3_lastFor 0 = .ok (.aload_n 0, 1) := by decide +kernel
theorem dX3_lastFor_1 : decode cX3_lastFor 1 = .ok (.iconst 0, 1) := by decide +kernel
theorem dX3_lastFor_2 : decode cX3_lastFor 2 = .ok (.putfield 15, 3) := by decide +kernel
theorem dX3_lastFor_5 : decode cX3_lastFor 5 = .ok (.aload_n 0, 1) := by decide +kernel
theorem dX3_lastFor_6 : decode cX3_lastFor 6 = .ok (.iload_n 1, 1) := by decide +kernel
theorem dX3_lastFor_7 : decode cX3_lastFor 7 = .ok (.putfield 23, 3) := by decide +kernel
theorem dX3_lastFor_10 : decode cX3_lastFor 10 = .ok (.aload_n 0, 1) := by decide +kernel
theorem dX3_lastFor_11 : decode cX3_lastFor 11 = .ok (.iconst 0, 1) := by decide +kernel
theorem dX3_lastFor_12 : decode cX3_lastFor 12 = .ok (.putfield 19, 3) := by decide +kernel
theorem dX3_lastFor_15 : decode cX3_lastFor 15 = .ok (.return_, 1) := by decide +kernel
theorem dX3_getRow_0 : decode cX3_getRow 0 = .ok (.iconst 0, 1) := by decide +kernel
theorem dX3_getRow_1 : decode cX3_getRow 1 = .ok (.istore_n 3, 1) := by decide +kernel
theorem dX3_getRow_2 : decode cX3_getRow 2 = .ok (.iload_n 3, 1) := by decide +kernel
theorem dX3_getRow_3 : decode cX3_getRow 3 = .ok (.bipush 16, 2) := by decide +kernel
theorem dX3_getRow_5 : decode cX3_getRow 5 = .ok (.if_icmp .ge 23, 3) := by decide +kernel
theorem dX3_getRow_8 : decode cX3_getRow 8 = .ok (.aload_n 2, 1) := by decide +kernel
theorem dX3_getRow_9 : decode cX3_getRow 9 = .ok (.iload_n 3, 1) := by decide +kernel
theorem dX3_getRow_10 : decode cX3_getRow 10 = .ok (.aload_n 0, 1) := by decide +kernel
theorem dX3_getRow_11 : decode cX3_getRow 11 = .ok (.getfield 9, 3) := by decide +kernel
theorem dX3_getRow_14 : decode cX3_getRow 14 = .ok (.iload_n 1, 1) := by decide +kernel
theorem dX3_getRow_15 : decode cX3_getRow 15 = .ok (.bipush 16, 2) := by decide +kernel
theorem dX3_getRow_17 : decode cX3_getRow 17 = .ok (.imul, 1) := by decide +kernel
theorem dX3_getRow_18 : decode cX3_getRow 18 = .ok (.iload_n 3, 1) := by decide +kernel
theorem dX3_getRow_19 : decode cX3_getRow 19 = .ok (.iadd, 1) := by decide +kernel
theorem dX3_getRow_20 : decode cX3_getRow 20 = .ok (.iaload, 1) := by decide +kernel
theorem dX3_getRow_21 : decode cX3_getRow 21 = .ok (.iastore, 1) := by decide +kernel
theorem dX3_getRow_22 : decode cX3_getRow 22 = .ok (.iinc 3 1, 3) := by decide +kernel
theorem dX3_getRow_25 : decode cX3_getRow 25 = .ok (.goto (-23), 3) := by decide +kernel
theorem dX3_getRow_28 : decode cX3_getRow 28 = .ok (.return_, 1) := by decide +kernel
theorem dX3_putRow_0 : decode cX3_putRow 0 = .ok (.aload_n 0, 1) := by decide +kernel
theorem dX3_putRow_1 : decode cX3_putRow 1 = .ok (.getfield 15, 3) := by decide +kernel
theorem dX3_putRow_4 : decode cX3_putRow 4 = .ok (.ifCond .ne 22, 3) := by decide +kernel
theorem dX3_putRow_7 : decode cX3_putRow 7 = .ok (.aload_n 0, 1) := by decide +kernel
theorem dX3_putRow_8 : decode cX3_putRow 8 = .ok (.getfield 23, 3) := by decide +kernel
theorem dX3_putRow_11 : decode cX3_putRow 11 = .ok (.ifCond .ne 5, 3) := by decide +kernel
theorem dX3_putRow_14 : decode cX3_putRow 14 = .ok (.iconst 0, 1) := by decide +kernel
theorem dX3_putRow_15 : decode cX3_putRow 15 = .ok (.ireturn, 1) := by decide +kernel
theorem dX3_putRow_16 : decode cX3_putRow 16 = .ok (.aload_n 0, 1) := by decide +kernel
theorem dX3_putRow_17 : decode cX3_putRow 17 = .ok (.dup, 1) := by decide +kernel
theorem dX3_putRow_18 : decode cX3_putRow 18 = .ok (.getfield 23, 3) := by decide +kernel
theorem dX3_putRow_21 : decode cX3_putRow 21 = .ok (.iconst 1, 1) := by decide +kernel
theorem dX3_putRow_22 : decode cX3_putRow 22 = .ok (.isub, 1) := by decide +kernel
theorem dX3_putRow_23 : decode cX3_putRow 23 = .ok (.putfield 23, 3) := by decide +kernel
theorem dX3_putRow_26 : decode cX3_putRow 26 = .ok (.iconst 0, 1) := by decide +kernel
theorem dX3_putRow_27 : decode cX3_putRow 27 = .ok (.istore_n 3, 1) := by decide +kernel
theorem dX3_putRow_28 : decode cX3_putRow 28 = .ok (.iload_n 3, 1) := by decide +kernel
theorem dX3_putRow_29 : decode cX3_putRow 29 = .ok (.bipush 16, 2) := by decide +kernel
theorem dX3_putRow_31 : decode cX3_putRow 31 = .ok (.if_icmp .ge 23, 3) := by decide +kernel
theorem dX3_putRow_34 : decode cX3_putRow 34 = .ok (.aload_n 0, 1) := by decide +kernel
theorem dX3_putRow_35 : decode cX3_putRow 35 = .ok (.getfield 9, 3) := by decide +kernel
theorem dX3_putRow_38 : decode cX3_putRow 38 = .ok (.iload_n 1, 1) := by decide +kernel
theorem dX3_putRow_39 : decode cX3_putRow 39 = .ok (.bipush 16, 2) := by decide +kernel
theorem dX3_putRow_41 : decode cX3_putRow 41 = .ok (.imul, 1) := by decide +kernel
theorem dX3_putRow_42 : decode cX3_putRow 42 = .ok (.iload_n 3, 1) := by decide +kernel
theorem dX3_putRow_43 : decode cX3_putRow 43 = .ok (.iadd, 1) := by decide +kernel
theorem dX3_putRow_44 : decode cX3_putRow 44 = .ok (.aload_n 2, 1) := by decide +kernel
theorem dX3_putRow_45 : decode cX3_putRow 45 = .ok (.iload_n 3, 1) := by decide +kernel
theorem dX3_putRow_46 : decode cX3_putRow 46 = .ok (.iaload, 1) := by decide +kernel
theorem dX3_putRow_47 : decode cX3_putRow 47 = .ok (.iastore, 1) := by decide +kernel
theorem dX3_putRow_48 : decode cX3_putRow 48 = .ok (.iinc 3 1, 3) := by decide +kernel
theorem dX3_putRow_51 : decode cX3_putRow 51 = .ok (.goto (-23), 3) := by decide +kernel
theorem dX3_putRow_54 : decode cX3_putRow 54 = .ok (.aload_n 0, 1) := by decide +kernel
theorem dX3_putRow_55 : decode cX3_putRow 55 = .ok (.dup, 1) := by decide +kernel
theorem dX3_putRow_56 : decode cX3_putRow 56 = .ok (.getfield 19, 3) := by decide +kernel
theorem dX3_putRow_59 : decode cX3_putRow 59 = .ok (.iconst 1, 1) := by decide +kernel
theorem dX3_putRow_60 : decode cX3_putRow 60 = .ok (.iadd, 1) := by decide +kernel
theorem dX3_putRow_61 : decode cX3_putRow 61 = .ok (.putfield 19, 3) := by decide +kernel
theorem dX3_putRow_64 : decode cX3_putRow 64 = .ok (.iconst 1, 1) := by decide +kernel
theorem dX3_putRow_65 : decode cX3_putRow 65 = .ok (.ireturn, 1) := by decide +kernel
theorem dJ9_max_7cf53_0 : decode cJ9_max_7cf53 0 = .ok (.iload_n 0, 1) := by decide +kernel
theorem dJ9_max_7cf53_1 : decode cJ9_max_7cf53 1 = .ok (.iload_n 1, 1) := by decide +kernel
theorem dJ9_max_7cf53_2 : decode cJ9_max_7cf53 2 = .ok (.if_icmp .lt 7, 3) := by decide +kernel
theorem dJ9_max_7cf53_5 : decode cJ9_max_7cf53 5 = .ok (.iload_n 0, 1) := by decide +kernel
theorem dJ9_max_7cf53_6 : decode cJ9_max_7cf53 6 = .ok (.goto 4, 3) := by decide +kernel
theorem dJ9_max_7cf53_9 : decode cJ9_max_7cf53 9 = .ok (.iload_n 1, 1) := by decide +kernel
theorem dJ9_max_7cf53_10 : decode cJ9_max_7cf53 10 = .ok (.ireturn, 1) := by decide +kernel
