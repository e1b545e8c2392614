theorem dX5_init_0 : decode cX5_init 0 = .ok (.aload_n 0, 1) := by decide +kernel
theorem dX5_init_1 : decode cX5_init 1 = .ok (.invokespecial 1, 3) := by decide +kernel
theorem dX5_init_4 : decode cX5_init 4 = .ok (.aload_n 0, 1) := by decide +kernel
theorem dX5_init_5 : decode cX5_init 5 = .ok (.sipush 4096, 3) := by decide +kernel
theorem dX5_init_8 : decode cX5_init 8 = .ok (.newarray .int, 2) := by decide +kernel
theorem dX5_init_10 : decode cX5_init 10 = .ok (.putfield 7, 3) := by decide +kernel
theorem dX5_init_13 : decode cX5_init 13 = .ok (.aload_n 0, 1) := by decide +kernel
theorem dX5_init_14 : decode cX5_init 14 = .ok (.bipush 64, 2) := by decide +kernel
theorem dX5_init_16 : decode cX5_init 16 = .ok (.newarray .boolean, 2) := by decide +kernel
theorem dX5_init_18 : decode cX5_init 18 = .ok (.putfield 13, 3) := by decide +kernel
theorem dX5_init_21 : decode cX5_init 21 = .ok (.aload_n 0, 1) := by decide +kernel
theorem dX5_init_22 : decode cX5_init 22 = .ok (.iconst (-1), 1) := by decide +kernel
theorem dX5_init_23 : decode cX5_init 23 = .ok (.putfield 17, 3) := by decide +kernel
theorem dX5_init_26 : decode cX5_init 26 = .ok (.aload_n 0, 1) := by decide +kernel
theorem dX5_init_27 : decode cX5_init 27 = .ok (.bipush 24, 2) := by decide +kernel
theorem dX5_init_29 : decode cX5_init 29 = .ok (.newarray .int, 2) := by decide +kernel
theorem dX5_init_31 : decode cX5_init 31 = .ok (.putfield 21, 3) := by decide +kernel
theorem dX5_init_34 : decode cX5_init 34 = .ok (.aload_n 0, 1) := by decide +kernel
theorem dX5_init_35 : decode cX5_init 35 = .ok (.iconst 4, 1) := by decide +kernel
theorem dX5_init_36 : decode cX5_init 36 = .ok (.newarray .boolean, 2) := by decide +kernel
theorem dX5_init_38 : decode cX5_init 38 = .ok (.putfield 24, 3) := by decide +kernel
theorem dX5_init_41 : decode cX5_init 41 = .ok (.aload_n 0, 1) := by decide +kernel
theorem dX5_init_42 : decode cX5_init 42 = .ok (.iconst 4, 1) := by decide +kernel
theorem dX5_init_43 : decode cX5_init 43 = .ok (.newarray .int, 2) := by decide +kernel
theorem dX5_init_45 : decode cX5_init 45 = .ok (.putfield 27, 3) := by decide +kernel
theorem dX5_init_48 : decode cX5_init 48 = .ok (.aload_n 0, 1) := by decide +kernel
theorem dX5_init_49 : decode cX5_init 49 = .ok (.iconst 4, 1) := by decide +kernel
theorem dX5_init_50 : decode cX5_init 50 = .ok (.newarray .int, 2) := by decide +kernel
theorem dX5_init_52 : decode cX5_init 52 = .ok (.putfield 30, 3) := by decide +kernel
theorem dX5_init_55 : decode cX5_init 55 = .ok (.aload_n 0, 1) := by decide +kernel
theorem dX5_init_56 : decode cX5_init 56 = .ok (.iconst 4, 1) := by decide +kernel
theorem dX5_init_57 : decode cX5_init 57 = .ok (.newarray .int, 2) := by decide +kernel
theorem dX5_init_59 : decode cX5_init 59 = .ok (.putfield 33, 3) := by decide +kernel
theorem dX5_init_62 : decode cX5_init 62 = .ok (.aload_n 0, 1) := by decide +kernel
theorem dX5_init_63 : decode cX5_init 63 = .ok (.iconst 4, 1) := by decide +kernel
theorem dX5_init_64 : decode cX5_init 64 = .ok (.newarray .boolean, 2) := by decide +kernel
theorem dX5_init_66 : decode cX5_init 66 = .ok (.putfield 36, 3) := by decide +kernel
theorem dX5_init_69 : decode cX5_init 69 = .ok (.aload_n 0, 1) := by decide +kernel
theorem dX5_init_70 : decode cX5_init 70 = .ok (.bipush 28, 2) := by decide +kernel
theorem dX5_init_72 : decode cX5_init 72 = .ok (.newarray .int, 2) := by decide +kernel
theorem dX5_init_74 : decode cX5_init 74 = .ok (.putfield 39, 3) := by decide +kernel
theorem dX5_init_77 : decode cX5_init 77 = .ok (.aload_n 0, 1) := by decide +kernel
theorem dX5_init_78 : decode cX5_init 78 = .ok (.bipush 16, 2) := by decide +kernel
theorem dX5_init_80 : decode cX5_init 80 = .ok (.newarray .int, 2) := by decide +kernel
theorem dX5_init_82 : decode cX5_init 82 = .ok (.putfield 42, 3) := by decide +kernel
theorem dX5_init_85 : decode cX5_init 85 = .ok (.aload_n 0, 1) := by decide +kernel
theorem dX5_init_86 : decode cX5_init 86 = .ok (.bipush 32, 2) := by decide +kernel
theorem dX5_init_88 : decode cX5_init 88 = .ok (.newarray .boolean, 2) := by decide +kernel
theorem dX5_init_90 : decode cX5_init 90 = .ok (.putfield 45, 3) := by decide +kernel
theorem dX5_init_93 : decode cX5_init 93 = .ok (.iconst 0, 1) := by decide +kernel
theorem dX5_init_94 : decode cX5_init 94 = .ok (.istore_n 1, 1) := by decide +kernel
theorem dX5_init_95 : decode cX5_init 95 = .ok (.iload_n 1, 1) := by decide +kernel
theorem dX5_init_96 : decode cX5_init 96 = .ok (.bipush 32, 2) := by decide +kernel
theorem dX5_init_98 : decode cX5_init 98 = .ok (.if_icmp .ge 21, 3) := by decide +kernel
theorem dX5_init_101 : decode cX5_init 101 = .ok (.aload_n 0, 1) := by decide +kernel
theorem dX5_init_102 : decode cX5_init 102 = .ok (.getfield 7, 3) := by decide +kernel
theorem dX5_init_105 : decode cX5_init 105 = .ok (.bipush 16, 2) := by decide +kernel
theorem dX5_init_107 : decode cX5_init 107 = .ok (.iload_n 1, 1) := by decide +kernel
theorem dX5_init_108 : decode cX5_init 108 = .ok (.imul, 1) := by decide +kernel
theorem dX5_init_109 : decode cX5_init 109 = .ok (.sipush 229, 3) := by decide +kernel
theorem dX5_init_112 : decode cX5_init 112 = .ok (.iastore, 1) := by decide +kernel
theorem dX5_init_113 : decode cX5_init 113 = .ok (.iinc 1 1, 3) := by decide +kernel
theorem dX5_init_116 : decode cX5_init 116 = .ok (.goto (-21), 3) := by decide +kernel
theorem dX5_init_119 : decode cX5_init 119 = .ok (.iconst 0, 1) := by decide +kernel
theorem dX5_init_120 : decode cX5_init 120 = .ok (.istore_n 1, 1) := by decide +kernel
theorem dX5_init_121 : decode cX5_init 121 = .ok (.iload_n 1, 1) := by decide +kernel
theorem dX5_init_122 : decode cX5_init 122 = .ok (.bipush 24, 2) := by decide +kernel
theorem dX5_init_124 : decode cX5_init 124 = .ok (.if_icmp .ge 17, 3) := by decide +kernel
theorem dX5_init_127 : decode cX5_init 127 = .ok (.aload_n 0, 1) := by decide +kernel
theorem dX5_init_128 : decode cX5_init 128 = .ok (.getfield 21, 3) := by decide +kernel
theorem dX5_init_131 : decode cX5_init 131 = .ok (.iload_n 1, 1) := by decide +kernel
theorem dX5_init_132 : decode cX5_init 132 = .ok (.bipush 32, 2) := by decide +kernel
theorem dX5_init_134 : decode cX5_init 134 = .ok (.iastore, 1) := by decide +kernel
theorem dX5_init_135 : decode cX5_init 135 = .ok (.iinc 1 1, 3) := by decide +kernel
theorem dX5_init_138 : decode cX5_init 138 = .ok (.goto (-17), 3) := by decide +kernel
theorem dX5_init_141 : decode cX5_init 141 = .ok (.iconst 0, 1) := by decide +kernel
theorem dX5_init_142 : decode cX5_init 142 = .ok (.istore_n 1, 1) := by decide +kernel
theorem dX5_init_143 : decode cX5_init 143 = .ok (.iload_n 1, 1) := by decide +kernel
theorem dX5_init_144 : decode cX5_init 144 = .ok (.bipush 8, 2) := by decide +kernel
theorem dX5_init_146 : decode cX5_init 146 = .ok (.if_icmp .ge 16, 3) := by decide +kernel
theorem dX5_init_149 : decode cX5_init 149 = .ok (.aload_n 0, 1) := by decide +kernel
theorem dX5_init_150 : decode cX5_init 150 = .ok (.getfield 13, 3) := by decide +kernel
theorem dX5_init_153 : decode cX5_init 153 = .ok (.iload_n 1, 1) := by decide +kernel
theorem dX5_init_154 : decode cX5_init 154 = .ok (.iconst 1, 1) := by decide +kernel
theorem dX5_init_155 : decode cX5_init 155 = .ok (.bastore, 1) := by decide +kernel
theorem dX5_init_156 : decode cX5_init 156 = .ok (.iinc 1 1, 3) := by decide +kernel
theorem dX5_init_159 : decode cX5_init 159 = .ok (.goto (-16), 3) := by decide +kernel
theorem dX5_init_162 : decode cX5_init 162 = .ok (.return_, 1) := by decide +kernel
theorem dX5_thrown_0 : decode cX5_thrown 0 = .ok (.aload_n 0, 1) := by decide +kernel
theorem dX5_thrown_1 : decode cX5_thrown 1 = .ok (.getfield 48, 3) := by decide +kernel
theorem dX5_thrown_4 : decode cX5_thrown 4 = .ok (.ireturn, 1) := by decide +kernel
theorem dX5_isFree_0 : decode cX5_isFree 0 = .ok (.aload_n 0, 1) := by decide +kernel
theorem dX5_isFree_1 : decode cX5_isFree 1 = .ok (.getfield 7, 3) := by decide +kernel
theorem dX5_isFree_4 : decode cX5_isFree 4 = .ok (.bipush 16, 2) := by decide +kernel
theorem dX5_isFree_6 : decode cX5_isFree 6 = .ok (.iload_n 1, 1) := by decide +kernel
theorem dX5_isFree_7 : decode cX5_isFree 7 = .ok (.imul, 1) := by decide +kernel
theorem dX5_isFree_8 : decode cX5_isFree 8 = .ok (.iaload, 1) := by decide +kernel
theorem dX5_isFree_9 : decode cX5_isFree 9 = .ok (.bipush 15, 2) := by decide +kernel
theorem dX5_isFree_11 : decode cX5_isFree 11 = .ok (.if_icmp .le 7, 3) := by decide +kernel
theorem dX5_isFree_14 : decode cX5_isFree 14 = .ok (.iconst 1, 1) := by decide +kernel
theorem dX5_isFree_15 : decode cX5_isFree 15 = .ok (.goto 4, 3) := by decide +kernel
theorem dX5_isFree_18 : decode cX5_isFree 18 = .ok (.iconst 0, 1) := by decide +kernel
theorem dX5_isFree_19 : decode cX5_isFree 19 = .ok (.ireturn, 1) := by decide +kernel
theorem dX5_fits_0 : decode cX5_fits 0 = .ok (.aload_n 0, 1) := by decide +kernel
theorem dX5_fits_1 : decode cX5_fits 1 = .ok (.getfield 7, 3) := by decide +kernel
theorem dX5_fits_4 : decode cX5_fits 4 = .ok (.bipush 16, 2) := by decide +kernel
theorem dX5_fits_6 : decode cX5_fits 6 = .ok (.iload_n 2, 1) := by decide +kernel
theorem dX5_fits_7 : decode cX5_fits 7 = .ok (.imul, 1) := by decide +kernel
theorem dX5_fits_8 : decode cX5_fits 8 = .ok (.iaload, 1) := by decide +kernel
theorem dX5_fits_9 : decode cX5_fits 9 = .ok (.aload_n 0, 1) := by decide +kernel
theorem dX5_fits_10 : decode cX5_fits 10 = .ok (.getfield 51, 3) := by decide +kernel
theorem dX5_fits_13 : decode cX5_fits 13 = .ok (.if_icmp .ne 7, 3) := by decide +kernel
theorem dX5_fits_16 : decode cX5_fits 16 = .ok (.iconst 1, 1) := by decide +kernel
theorem dX5_fits_17 : decode cX5_fits 17 = .ok (.goto 4, 3) := by decide +kernel
theorem dX5_fits_20 : decode cX5_fits 20 = .ok (.iconst 0, 1) := by decide +kernel
theorem dX5_fits_21 : decode cX5_fits 21 = .ok (.istore_n 3, 1) := by decide +kernel
theorem dX5_fits_22 : decode cX5_fits 22 = .ok (.iconst 0, 1) := by decide +kernel
theorem dX5_fits_23 : decode cX5_fits 23 = .ok (.istore 4, 2) := by decide +kernel
theorem dX5_fits_25 : decode cX5_fits 25 = .ok (.iload 4, 2) := by decide +kernel
theorem dX5_fits_27 : decode cX5_fits 27 = .ok (.bipush 6, 2) := by decide +kernel
theorem dX5_fits_29 : decode cX5_fits 29 = .ok (.if_icmp .ge 62, 3) := by decide +kernel
theorem dX5_fits_32 : decode cX5_fits 32 = .ok (.aload_n 0, 1) := by decide +kernel
theorem dX5_fits_33 : decode cX5_fits 33 = .ok (.getfield 21, 3) := by decide +kernel
theorem dX5_fits_36 : decode cX5_fits 36 = .ok (.bipush 6, 2) := by decide +kernel
theorem dX5_fits_38 : decode cX5_fits 38 = .ok (.iload_n 1, 1) := by decide +kernel
theorem dX5_fits_39 : decode cX5_fits 39 = .ok (.imul, 1) := by decide +kernel
theorem dX5_fits_40 : decode cX5_fits 40 = .ok (.iload 4, 2) := by decide +kernel
theorem dX5_fits_42 : decode cX5_fits 42 = .ok (.iadd, 1) := by decide +kernel
theorem dX5_fits_43 : decode cX5_fits 43 = .ok (.iaload, 1) := by decide +kernel
theorem dX5_fits_44 : decode cX5_fits 44 = .ok (.istore 5, 2) := by decide +kernel
theorem dX5_fits_46 : decode cX5_fits 46 = .ok (.iload_n 3, 1) := by decide +kernel
theorem dX5_fits_47 : decode cX5_fits 47 = .ok (.ifCond .eq 36, 3) := by decide +kernel
theorem dX5_fits_50 : decode cX5_fits 50 = .ok (.iload 5, 2) := by decide +kernel
theorem dX5_fits_52 : decode cX5_fits 52 = .ok (.bipush 63, 2) := by decide +kernel
theorem dX5_fits_54 : decode cX5_fits 54 = .ok (.if_icmp .eq 25, 3) := by decide +kernel
theorem dX5_fits_57 : decode cX5_fits 57 = .ok (.iload 5, 2) := by decide +kernel
theorem dX5_fits_59 : decode cX5_fits 59 = .ok (.aload_n 0, 1) := by decide +kernel
theorem dX5_fits_60 : decode cX5_fits 60 = .ok (.getfield 7, 3) := by decide +kernel
theorem dX5_fits_63 : decode cX5_fits 63 = .ok (.bipush 16, 2) := by decide +kernel
theorem dX5_fits_65 : decode cX5_fits 65 = .ok (.iload_n 2, 1) := by decide +kernel
theorem dX5_fits_66 : decode cX5_fits 66 = .ok (.imul, 1) := by decide +kernel
theorem dX5_fits_67 : decode cX5_fits 67 = .ok (.iconst 1, 1) := by decide +kernel
theorem dX5_fits_68 : decode cX5_fits 68 = .ok (.iadd, 1) := by decide +kernel
theorem dX5_fits_69 : decode cX5_fits 69 = .ok (.iload 4, 2) := by decide +kernel
theorem dX5_fits_71 : decode cX5_fits 71 = .ok (.iadd, 1) := by decide +kernel
theorem dX5_fits_72 : decode cX5_fits 72 = .ok (.iaload, 1) := by decide +kernel
theorem dX5_fits_73 : decode cX5_fits 73 = .ok (.bipush 127, 2) := by decide +kernel
theorem dX5_fits_75 : decode cX5_fits 75 = .ok (.iand, 1) := by decide +kernel
theorem dX5_fits_76 : decode cX5_fits 76 = .ok (.if_icmp .ne 7, 3) := by decide +kernel
theorem dX5_fits_79 : decode cX5_fits 79 = .ok (.iconst 1, 1) := by decide +kernel
theorem dX5_fits_80 : decode cX5_fits 80 = .ok (.goto 4, 3) := by decide +kernel
theorem dX5_fits_83 : decode cX5_fits 83 = .ok (.iconst 0, 1) := by decide +kernel
theorem dX5_fits_84 : decode cX5_fits 84 = .ok (.istore_n 3, 1) := by decide +kernel
theorem dX5_fits_85 : decode cX5_fits 85 = .ok (.iinc 4 1, 3) := by decide +kernel
theorem dX5_fits_88 : decode cX5_fits 88 = .ok (.goto (-63), 3) := by decide +kernel
theorem dX5_fits_91 : decode cX5_fits 91 = .ok (.iload_n 3, 1) := by decide +kernel
theorem dX5_fits_92 : decode cX5_fits 92 = .ok (.ireturn, 1) := by decide +kernel
set_option maxRecDepth 20000 in
theorem ggX5_first_X5_fits : GoodIn wsX5_first wsX5_fits := goodIn_r _ [6, 1, 7, 8, 9, 10, 11, 12, 13, 14, 15, 16, 17, 18, 19, 20, 21, 22, 23] (by decide +kernel) (by decide +kernel)
set_option maxRecDepth 20000 in
theorem gX5_first_X5_fits : GoodIn wsX5_first (wsV RX5 54 RX5 yX5_fits wsX5_fits) := goodIn_app (goodIn_of _ (by decide +kernel)) ggX5_first_X5_fits
theorem dX5_first_0 : decode cX5_first 0 = .ok (.iload_n 2, 1) := by decide +kernel
theorem dX5_first_1 : decode cX5_first 1 = .ok (.istore 4, 2) := by decide +kernel
theorem dX5_first_3 : decode cX5_first 3 = .ok (.iload 4, 2) := by decide +kernel
theorem dX5_first_5 : decode cX5_first 5 = .ok (.bipush 32, 2) := by decide +kernel
theorem dX5_first_7 : decode cX5_first 7 = .ok (.if_icmp .ge 43, 3) := by decide +kernel
theorem dX5_first_10 : decode cX5_first 10 = .ok (.aload_n 0, 1) := by decide +kernel
theorem dX5_first_11 : decode cX5_first 11 = .ok (.iload_n 1, 1) := by decide +kernel
theorem dX5_first_12 : decode cX5_first 12 = .ok (.iload 4, 2) := by decide +kernel
theorem dX5_first_14 : decode cX5_first 14 = .ok (.invokevirtual 54, 3) := by decide +kernel
theorem dX5_first_17 : decode cX5_first 17 = .ok (.ifCond .eq 27, 3) := by decide +kernel
theorem dX5_first_20 : decode cX5_first 20 = .ok (.iload_n 3, 1) := by decide +kernel
theorem dX5_first_21 : decode cX5_first 21 = .ok (.ifCond .lt 20, 3) := by decide +kernel
theorem dX5_first_24 : decode cX5_first 24 = .ok (.aload_n 0, 1) := by decide +kernel
theorem dX5_first_25 : decode cX5_first 25 = .ok (.getfield 7, 3) := by decide +kernel
theorem dX5_first_28 : decode cX5_first 28 = .ok (.bipush 16, 2) := by decide +kernel
theorem dX5_first_30 : decode cX5_first 30 = .ok (.iload 4, 2) := by decide +kernel
theorem dX5_first_32 : decode cX5_first 32 = .ok (.imul, 1) := by decide +kernel
theorem dX5_first_33 : decode cX5_first 33 = .ok (.bipush 7, 2) := by decide +kernel
theorem dX5_first_35 : decode cX5_first 35 = .ok (.iadd, 1) := by decide +kernel
theorem dX5_first_36 : decode cX5_first 36 = .ok (.iaload, 1) := by decide +kernel
theorem dX5_first_37 : decode cX5_first 37 = .ok (.iload_n 3, 1) := by decide +kernel
theorem dX5_first_38 : decode cX5_first 38 = .ok (.if_icmp .ne 6, 3) := by decide +kernel
theorem dX5_first_41 : decode cX5_first 41 = .ok (.iload 4, 2) := by decide +kernel
theorem dX5_first_43 : decode cX5_first 43 = .ok (.ireturn, 1) := by decide +kernel
theorem dX5_first_44 : decode cX5_first 44 = .ok (.iinc 4 1, 3) := by decide +kernel
theorem dX5_first_47 : decode cX5_first 47 = .ok (.goto (-44), 3) := by decide +kernel
theorem dX5_first_50 : decode cX5_first 50 = .ok (.iconst (-1), 1) := by decide +kernel
theorem dX5_first_51 : decode cX5_first 51 = .ok (.ireturn, 1) := by decide +kernel
set_option maxRecDepth 20000 in
theorem ggX5_firstFree_X5_isFree : GoodIn wsX5_firstFree wsX5_isFree := goodIn_r _ [5, 6, 7, 8, 9, 10, 11, 12, 13, 14, 15, 16, 17, 18, 19, 20, 21] (by decide +kernel) (by decide +kernel)
set_option maxRecDepth 20000 in
theorem gX5_firstFree_X5_isFree : GoodIn wsX5_firstFree (wsV RX5 58 RX5 yX5_isFree wsX5_isFree) := goodIn_app (goodIn_of _ (by decide +kernel)) ggX5_firstFree_X5_isFree
theorem dX5_firstFree_0 : decode cX5_firstFree 0 = .ok (.iconst 0, 1) := by decide +kernel
theorem dX5_firstFree_1 : decode cX5_firstFree 1 = .ok (.istore_n 1, 1) := by decide +kernel
theorem dX5_firstFree_2 : decode cX5_firstFree 2 = .ok (.iload_n 1, 1) := by decide +kernel
theorem dX5_firstFree_3 : decode cX5_firstFree 3 = .ok (.bipush 32, 2) := by decide +kernel
theorem dX5_firstFree_5 : decode cX5_firstFree 5 = .ok (.if_icmp .ge 19, 3) := by decide +kernel
theorem dX5_firstFree_8 : decode cX5_firstFree 8 = .ok (.aload_n 0, 1) := by decide +kernel
theorem dX5_firstFree_9 : decode cX5_firstFree 9 = .ok (.iload_n 1, 1) := by decide +kernel
theorem dX5_firstFree_10 : decode cX5_firstFree 10 = .ok (.invokevirtual 58, 3) := by decide +kernel
theorem dX5_firstFree_13 : decode cX5_firstFree 13 = .ok (.ifCond .eq 5, 3) := by decide +kernel
theorem dX5_firstFree_16 : decode cX5_firstFree 16 = .ok (.iload_n 1, 1) := by decide +kernel
theorem dX5_firstFree_17 : decode cX5_firstFree 17 = .ok (.ireturn, 1) := by decide +kernel
theorem dX5_firstFree_18 : decode cX5_firstFree 18 = .ok (.iinc 1 1, 3) := by decide +kernel
theorem dX5_firstFree_21 : decode cX5_firstFree 21 = .ok (.goto (-19), 3) := by decide +kernel
theorem dX5_firstFree_24 : decode cX5_firstFree 24 = .ok (.iconst (-1), 1) := by decide +kernel
theorem dX5_firstFree_25 : decode cX5_firstFree 25 = .ok (.ireturn, 1) := by decide +kernel
theorem dX5_canWrite_0 : decode cX5_canWrite 0 = .ok (.aload_n 0, 1) := by decide +kernel
theorem dX5_canWrite_1 : decode cX5_canWrite 1 = .ok (.getfield 17, 3) := by decide +kernel
theorem dX5_canWrite_4 : decode cX5_canWrite 4 = .ok (.ifCond .ne 5, 3) := by decide +kernel
theorem dX5_canWrite_7 : decode cX5_canWrite 7 = .ok (.iconst 0, 1) := by decide +kernel
theorem dX5_canWrite_8 : decode cX5_canWrite 8 = .ok (.ireturn, 1) := by decide +kernel
theorem dX5_canWrite_9 : decode cX5_canWrite 9 = .ok (.aload_n 0, 1) := by decide +kernel
theorem dX5_canWrite_10 : decode cX5_canWrite 10 = .ok (.aload_n 0, 1) := by decide +kernel
theorem dX5_canWrite_11 : decode cX5_canWrite 11 = .ok (.getfield 17, 3) := by decide +kernel
theorem dX5_canWrite_14 : decode cX5_canWrite 14 = .ok (.ifCond .le 12, 3) := by decide +kernel
theorem dX5_canWrite_17 : decode cX5_canWrite 17 = .ok (.aload_n 0, 1) := by decide +kernel
theorem dX5_canWrite_18 : decode cX5_canWrite 18 = .ok (.getfield 17, 3) := by decide +kernel
theorem dX5_canWrite_21 : decode cX5_canWrite 21 = .ok (.iconst 1, 1) := by decide +kernel
theorem dX5_canWrite_22 : decode cX5_canWrite 22 = .ok (.isub, 1) := by decide +kernel
theorem dX5_canWrite_23 : decode cX5_canWrite 23 = .ok (.goto 7, 3) := by decide +kernel
theorem dX5_canWrite_26 : decode cX5_canWrite 26 = .ok (.aload_n 0, 1) := by decide +kernel
theorem dX5_canWrite_27 : decode cX5_canWrite 27 = .ok (.getfield 17, 3) := by decide +kernel
theorem dX5_canWrite_30 : decode cX5_canWrite 30 = .ok (.putfield 17, 3) := by decide +kernel
theorem dX5_canWrite_33 : decode cX5_canWrite 33 = .ok (.aload_n 0, 1) := by decide +kernel
theorem dX5_canWrite_34 : decode cX5_canWrite 34 = .ok (.dup, 1) := by decide +kernel
theorem dX5_canWrite_35 : decode cX5_canWrite 35 = .ok (.getfield 62, 3) := by decide +kernel
theorem dX5_canWrite_38 : decode cX5_canWrite 38 = .ok (.iconst 1, 1) := by decide +kernel
theorem dX5_canWrite_39 : decode cX5_canWrite 39 = .ok (.iadd, 1) := by decide +kernel
theorem dX5_canWrite_40 : decode cX5_canWrite 40 = .ok (.putfield 62, 3) := by decide +kernel
theorem dX5_canWrite_43 : decode cX5_canWrite 43 = .ok (.iconst 1, 1) := by decide +kernel
theorem dX5_canWrite_44 : decode cX5_canWrite 44 = .ok (.ireturn, 1) := by decide +kernel
theorem dX5_untaken_0 : decode cX5_untaken 0 = .ok (.iconst 0, 1) := by decide +kernel
theorem dX5_untaken_1 : decode cX5_untaken 1 = .ok (.istore_n 1, 1) := by decide +kernel
theorem dX5_untaken_2 : decode cX5_untaken 2 = .ok (.iconst 0, 1) := by decide +kernel
theorem dX5_untaken_3 : decode cX5_untaken 3 = .ok (.istore_n 2, 1) := by decide +kernel
theorem dX5_untaken_4 : decode cX5_untaken 4 = .ok (.iload_n 2, 1) := by decide +kernel
theorem dX5_untaken_5 : decode cX5_untaken 5 = .ok (.bipush 64, 2) := by decide +kernel
theorem dX5_untaken_7 : decode cX5_untaken 7 = .ok (.if_icmp .ge 26, 3) := by decide +kernel
theorem dX5_untaken_10 : decode cX5_untaken 10 = .ok (.aload_n 0, 1) := by decide +kernel
theorem dX5_untaken_11 : decode cX5_untaken 11 = .ok (.getfield 13, 3) := by decide +kernel
theorem dX5_untaken_14 : decode cX5_untaken 14 = .ok (.iload_n 2, 1) := by decide +kernel
theorem dX5_untaken_15 : decode cX5_untaken 15 = .ok (.baload, 1) := by decide +kernel
theorem dX5_untaken_16 : decode cX5_untaken 16 = .ok (.ifCond .eq 7, 3) := by decide +kernel
theorem dX5_untaken_19 : decode cX5_untaken 19 = .ok (.iload_n 1, 1) := by decide +kernel
theorem dX5_untaken_20 : decode cX5_untaken 20 = .ok (.goto 6, 3) := by decide +kernel
theorem dX5_untaken_23 : decode cX5_untaken 23 = .ok (.iload_n 1, 1) := by decide +kernel
theorem dX5_untaken_24 : decode cX5_untaken 24 = .ok (.iconst 1, 1) := by decide +kernel
theorem dX5_untaken_25 : decode cX5_untaken 25 = .ok (.iadd, 1) := by decide +kernel
theorem dX5_untaken_26 : decode cX5_untaken 26 = .ok (.istore_n 1, 1) := by decide +kernel
theorem dX5_untaken_27 : decode cX5_untaken 27 = .ok (.iinc 2 1, 3) := by decide +kernel
theorem dX5_untaken_30 : decode cX5_untaken 30 = .ok (.goto (-26), 3) := by decide +kernel
theorem dX5_untaken_33 : decode cX5_untaken 33 = .ok (.iload_n 1, 1) := by decide +kernel
theorem dX5_untaken_34 : decode cX5_untaken 34 = .ok (.ireturn, 1) := by decide +kernel
set_option maxRecDepth 20000 in
theorem ggX5_login_X5_isFree : GoodIn wsX5_login wsX5_isFree := goodIn_r _ [12, 6, 17, 18, 19, 20, 21, 22, 23, 24, 25, 26, 27, 28, 29, 30, 31] (by decide +kernel) (by decide +kernel)
set_option maxRecDepth 20000 in
theorem gX5_login_X5_isFree : GoodIn wsX5_login (wsV RX5 58 RX5 yX5_isFree wsX5_isFree) := goodIn_app (goodIn_of _ (by decide +kernel)) ggX5_login_X5_isFree
set_option maxRecDepth 20000 in
theorem ggX5_login_X5_untaken : GoodIn wsX5_login wsX5_untaken := goodIn_r _ [16, 5, 17, 18, 19, 20, 21, 22, 23, 24, 25, 26, 27, 28, 29, 30, 31] (by decide +kernel) (by decide +kernel)
set_option maxRecDepth 20000 in
theorem gX5_login_X5_untaken : GoodIn wsX5_login (wsV RX5 65 RX5 yX5_untaken wsX5_untaken) := goodIn_app (goodIn_of _ (by decide +kernel)) ggX5_login_X5_untaken
theorem dX5_login_0 : decode cX5_login 0 = .ok (.aload_n 0, 1) := by decide +kernel
theorem dX5_login_1 : decode cX5_login 1 = .ok (.iload_n 1, 1) := by decide +kernel
theorem dX5_login_2 : decode cX5_login 2 = .ok (.ifCond .lt 9, 3) := by decide +kernel
theorem dX5_login_5 : decode cX5_login 5 = .ok (.iload_n 1, 1) := by decide +kernel
theorem dX5_login_6 : decode cX5_login 6 = .ok (.bipush 15, 2) := by decide +kernel
theorem dX5_login_8 : decode cX5_login 8 = .ok (.if_icmp .le 7, 3) := by decide +kernel
theorem dX5_login_11 : decode cX5_login 11 = .ok (.iconst 1, 1) := by decide +kernel
theorem dX5_login_12 : decode cX5_login 12 = .ok (.goto 4, 3) := by decide +kernel
theorem dX5_login_15 : decode cX5_login 15 = .ok (.iconst 0, 1) := by decide +kernel
theorem dX5_login_16 : decode cX5_login 16 = .ok (.putfield 48, 3) := by decide +kernel
theorem dX5_login_19 : decode cX5_login 19 = .ok (.aload_n 0, 1) := by decide +kernel
theorem dX5_login_20 : decode cX5_login 20 = .ok (.getfield 48, 3) := by decide +kernel
theorem dX5_login_23 : decode cX5_login 23 = .ok (.ifCond .le 5, 3) := by decide +kernel
theorem dX5_login_26 : decode cX5_login 26 = .ok (.iconst 0, 1) := by decide +kernel
theorem dX5_login_27 : decode cX5_login 27 = .ok (.ireturn, 1) := by decide +kernel
theorem dX5_login_28 : decode cX5_login 28 = .ok (.aload_n 0, 1) := by decide +kernel
theorem dX5_login_29 : decode cX5_login 29 = .ok (.iconst (-1), 1) := by decide +kernel
theorem dX5_login_30 : decode cX5_login 30 = .ok (.putfield 17, 3) := by decide +kernel
theorem dX5_login_33 : decode cX5_login 33 = .ok (.aload_n 0, 1) := by decide +kernel
theorem dX5_login_34 : decode cX5_login 34 = .ok (.iconst 0, 1) := by decide +kernel
theorem dX5_login_35 : decode cX5_login 35 = .ok (.putfield 62, 3) := by decide +kernel
theorem dX5_login_38 : decode cX5_login 38 = .ok (.aload_n 0, 1) := by decide +kernel
theorem dX5_login_39 : decode cX5_login 39 = .ok (.iload_n 1, 1) := by decide +kernel
theorem dX5_login_40 : decode cX5_login 40 = .ok (.putfield 51, 3) := by decide +kernel
theorem dX5_login_43 : decode cX5_login 43 = .ok (.iconst 0, 1) := by decide +kernel
theorem dX5_login_44 : decode cX5_login 44 = .ok (.istore_n 2, 1) := by decide +kernel
theorem dX5_login_45 : decode cX5_login 45 = .ok (.iload_n 2, 1) := by decide +kernel
theorem dX5_login_46 : decode cX5_login 46 = .ok (.bipush 64, 2) := by decide +kernel
theorem dX5_login_48 : decode cX5_login 48 = .ok (.if_icmp .ge 26, 3) := by decide +kernel
theorem dX5_login_51 : decode cX5_login 51 = .ok (.aload_n 0, 1) := by decide +kernel
theorem dX5_login_52 : decode cX5_login 52 = .ok (.getfield 13, 3) := by decide +kernel
theorem dX5_login_55 : decode cX5_login 55 = .ok (.iload_n 2, 1) := by decide +kernel
theorem dX5_login_56 : decode cX5_login 56 = .ok (.iload_n 2, 1) := by decide +kernel
theorem dX5_login_57 : decode cX5_login 57 = .ok (.bipush 8, 2) := by decide +kernel
theorem dX5_login_59 : decode cX5_login 59 = .ok (.if_icmp .ge 7, 3) := by decide +kernel
theorem dX5_login_62 : decode cX5_login 62 = .ok (.iconst 1, 1) := by decide +kernel
theorem dX5_login_63 : decode cX5_login 63 = .ok (.goto 4, 3) := by decide +kernel
theorem dX5_login_66 : decode cX5_login 66 = .ok (.iconst 0, 1) := by decide +kernel
theorem dX5_login_67 : decode cX5_login 67 = .ok (.bastore, 1) := by decide +kernel
theorem dX5_login_68 : decode cX5_login 68 = .ok (.iinc 2 1, 3) := by decide +kernel
theorem dX5_login_71 : decode cX5_login 71 = .ok (.goto (-26), 3) := by decide +kernel
theorem dX5_login_74 : decode cX5_login 74 = .ok (.iconst 0, 1) := by decide +kernel
theorem dX5_login_75 : decode cX5_login 75 = .ok (.istore_n 2, 1) := by decide +kernel
theorem dX5_login_76 : decode cX5_login 76 = .ok (.iload_n 2, 1) := by decide +kernel
theorem dX5_login_77 : decode cX5_login 77 = .ok (.bipush 32, 2) := by decide +kernel
theorem dX5_login_79 : decode cX5_login 79 = .ok (.if_icmp .ge 61, 3) := by decide +kernel
theorem dX5_login_82 : decode cX5_login 82 = .ok (.bipush 9, 2) := by decide +kernel
theorem dX5_login_84 : decode cX5_login 84 = .ok (.istore_n 3, 1) := by decide +kernel
theorem dX5_login_85 : decode cX5_login 85 = .ok (.iload_n 3, 1) := by decide +kernel
theorem dX5_login_86 : decode cX5_login 86 = .ok (.bipush 16, 2) := by decide +kernel
theorem dX5_login_88 : decode cX5_login 88 = .ok (.if_icmp .ge 46, 3) := by decide +kernel
theorem dX5_login_91 : decode cX5_login 91 = .ok (.aload_n 0, 1) := by decide +kernel
theorem dX5_login_92 : decode cX5_login 92 = .ok (.getfield 7, 3) := by decide +kernel
theorem dX5_login_95 : decode cX5_login 95 = .ok (.bipush 16, 2) := by decide +kernel
theorem dX5_login_97 : decode cX5_login 97 = .ok (.iload_n 2, 1) := by decide +kernel
theorem dX5_login_98 : decode cX5_login 98 = .ok (.imul, 1) := by decide +kernel
theorem dX5_login_99 : decode cX5_login 99 = .ok (.iload_n 3, 1) := by decide +kernel
theorem dX5_login_100 : decode cX5_login 100 = .ok (.iadd, 1) := by decide +kernel
theorem dX5_login_101 : decode cX5_login 101 = .ok (.iaload, 1) := by decide +kernel
theorem dX5_login_102 : decode cX5_login 102 = .ok (.istore 4, 2) := by decide +kernel
theorem dX5_login_104 : decode cX5_login 104 = .ok (.aload_n 0, 1) := by decide +kernel
theorem dX5_login_105 : decode cX5_login 105 = .ok (.iload_n 2, 1) := by decide +kernel
theorem dX5_login_106 : decode cX5_login 106 = .ok (.invokevirtual 58, 3) := by decide +kernel
theorem dX5_login_109 : decode cX5_login 109 = .ok (.ifCond .ne 19, 3) := by decide +kernel
theorem dX5_login_112 : decode cX5_login 112 = .ok (.iload 4, 2) := by decide +kernel
theorem dX5_login_114 : decode cX5_login 114 = .ok (.ifCond .eq 14, 3) := by decide +kernel
theorem dX5_login_117 : decode cX5_login 117 = .ok (.aload_n 0, 1) := by decide +kernel
theorem dX5_login_118 : decode cX5_login 118 = .ok (.getfield 13, 3) := by decide +kernel
theorem dX5_login_121 : decode cX5_login 121 = .ok (.iload 4, 2) := by decide +kernel
theorem dX5_login_123 : decode cX5_login 123 = .ok (.bipush 64, 2) := by decide +kernel
theorem dX5_login_125 : decode cX5_login 125 = .ok (.irem, 1) := by decide +kernel
theorem dX5_login_126 : decode cX5_login 126 = .ok (.iconst 1, 1) := by decide +kernel
theorem dX5_login_127 : decode cX5_login 127 = .ok (.bastore, 1) := by decide +kernel
theorem dX5_login_128 : decode cX5_login 128 = .ok (.iinc 3 1, 3) := by decide +kernel
theorem dX5_login_131 : decode cX5_login 131 = .ok (.goto (-46), 3) := by decide +kernel
theorem dX5_login_134 : decode cX5_login 134 = .ok (.iinc 2 1, 3) := by decide +kernel
theorem dX5_login_137 : decode cX5_login 137 = .ok (.goto (-61), 3) := by decide +kernel
theorem dX5_login_140 : decode cX5_login 140 = .ok (.iconst 0, 1) := by decide +kernel
theorem dX5_login_141 : decode cX5_login 141 = .ok (.istore_n 2, 1) := by decide +kernel
theorem dX5_login_142 : decode cX5_login 142 = .ok (.iload_n 2, 1) := by decide +kernel
theorem dX5_login_143 : decode cX5_login 143 = .ok (.iconst 4, 1) := by decide +kernel
theorem dX5_login_144 : decode cX5_login 144 = .ok (.if_icmp .ge 16, 3) := by decide +kernel
theorem dX5_login_147 : decode cX5_login 147 = .ok (.aload_n 0, 1) := by decide +kernel
theorem dX5_login_148 : decode cX5_login 148 = .ok (.getfield 24, 3) := by decide +kernel
theorem dX5_login_151 : decode cX5_login 151 = .ok (.iload_n 2, 1) := by decide +kernel
theorem dX5_login_152 : decode cX5_login 152 = .ok (.iconst 0, 1) := by decide +kernel
theorem dX5_login_153 : decode cX5_login 153 = .ok (.bastore, 1) := by decide +kernel
theorem dX5_login_154 : decode cX5_login 154 = .ok (.iinc 2 1, 3) := by decide +kernel
theorem dX5_login_157 : decode cX5_login 157 = .ok (.goto (-15), 3) := by decide +kernel
theorem dX5_login_160 : decode cX5_login 160 = .ok (.aload_n 0, 1) := by decide +kernel
theorem dX5_login_161 : decode cX5_login 161 = .ok (.invokevirtual 65, 3) := by decide +kernel
theorem dX5_login_164 : decode cX5_login 164 = .ok (.ireturn, 1) := by decide +kernel
theorem dX5_power_0 : decode cX5_power 0 = .ok (.aload_n 0, 1) := by decide +kernel
theorem dX5_power_1 : decode cX5_power 1 = .ok (.iload_n 1, 1) := by decide +kernel
theorem dX5_power_2 : decode cX5_power 2 = .ok (.ifCond .lt 10, 3) := by decide +kernel
theorem dX5_power_5 : decode cX5_power 5 = .ok (.iload_n 1, 1) := by decide +kernel
theorem dX5_power_6 : decode cX5_power 6 = .ok (.sipush 1000, 3) := by decide +kernel
theorem dX5_power_9 : decode cX5_power 9 = .ok (.if_icmp .le 7, 3) := by decide +kernel
theorem dX5_power_12 : decode cX5_power 12 = .ok (.iconst 1, 1) := by decide +kernel
theorem dX5_power_13 : decode cX5_power 13 = .ok (.goto 4, 3) := by decide +kernel
theorem dX5_power_16 : decode cX5_power 16 = .ok (.iconst 0, 1) := by decide +kernel
theorem dX5_power_17 : decode cX5_power 17 = .ok (.putfield 48, 3) := by decide +kernel
theorem dX5_power_20 : decode cX5_power 20 = .ok (.aload_n 0, 1) := by decide +kernel
theorem dX5_power_21 : decode cX5_power 21 = .ok (.getfield 48, 3) := by decide +kernel
theorem dX5_power_24 : decode cX5_power 24 = .ok (.ifCond .ne 13, 3) := by decide +kernel
theorem dX5_power_27 : decode cX5_power 27 = .ok (.aload_n 0, 1) := by decide +kernel
theorem dX5_power_28 : decode cX5_power 28 = .ok (.iload_n 1, 1) := by decide +kernel
theorem dX5_power_29 : decode cX5_power 29 = .ok (.putfield 17, 3) := by decide +kernel
theorem dX5_power_32 : decode cX5_power 32 = .ok (.aload_n 0, 1) := by decide +kernel
theorem dX5_power_33 : decode cX5_power 33 = .ok (.iconst 0, 1) := by decide +kernel
theorem dX5_power_34 : decode cX5_power 34 = .ok (.putfield 62, 3) := by decide +kernel
theorem dX5_power_37 : decode cX5_power 37 = .ok (.return_, 1) := by decide +kernel
theorem dX5_noControl_0 : decode cX5_noControl 0 = .ok (.aload_n 0, 1) := by decide +kernel
theorem dX5_noControl_1 : decode cX5_noControl 1 = .ok (.iload_n 1, 1) := by decide +kernel
theorem dX5_noControl_2 : decode cX5_noControl 2 = .ok (.ifCond .lt 8, 3) := by decide +kernel
theorem dX5_noControl_5 : decode cX5_noControl 5 = .ok (.iload_n 1, 1) := by decide +kernel
theorem dX5_noControl_6 : decode cX5_noControl 6 = .ok (.iconst 3, 1) := by decide +kernel
theorem dX5_noControl_7 : decode cX5_noControl 7 = .ok (.if_icmp .le 7, 3) := by decide +kernel
theorem dX5_noControl_10 : decode cX5_noControl 10 = .ok (.iconst 1, 1) := by decide +kernel
theorem dX5_noControl_11 : decode cX5_noControl 11 = .ok (.goto 4, 3) := by decide +kernel
theorem dX5_noControl_14 : decode cX5_noControl 14 = .ok (.iconst 0, 1) := by decide +kernel
theorem dX5_noControl_15 : decode cX5_noControl 15 = .ok (.putfield 48, 3) := by decide +kernel
theorem dX5_noControl_18 : decode cX5_noControl 18 = .ok (.aload_n 0, 1) := by decide +kernel
theorem dX5_noControl_19 : decode cX5_noControl 19 = .ok (.getfield 48, 3) := by decide +kernel
theorem dX5_noControl_22 : decode cX5_noControl 22 = .ok (.ifCond .le 7, 3) := by decide +kernel
theorem dX5_noControl_25 : decode cX5_noControl 25 = .ok (.iconst 1, 1) := by decide +kernel
theorem dX5_noControl_26 : decode cX5_noControl 26 = .ok (.goto 4, 3) := by decide +kernel
theorem dX5_noControl_29 : decode cX5_noControl 29 = .ok (.iconst 0, 1) := by decide +kernel
theorem dX5_noControl_30 : decode cX5_noControl 30 = .ok (.ireturn, 1) := by decide +kernel
set_option maxRecDepth 20000 in
theorem ggX5_name_X5_noControl : GoodIn wsX5_name wsX5_noControl := goodIn_r _ [8, 9, 10, 11, 12, 13, 14, 15, 16, 17, 18, 19, 20, 21, 22, 23, 24] (by decide +kernel) (by decide +kernel)
set_option maxRecDepth 20000 in
theorem gX5_name_X5_noControl : GoodIn wsX5_name (wsV RX5 69 RX5 yX5_noControl wsX5_noControl) := goodIn_app (goodIn_of _ (by decide +kernel)) ggX5_name_X5_noControl
theorem dX5_name_0 : decode cX5_name 0 = .ok (.aload_n 0, 1) := by decide +kernel
theorem dX5_name_1 : decode cX5_name 1 = .ok (.iload_n 1, 1) := by decide +kernel
theorem dX5_name_2 : decode cX5_name 2 = .ok (.invokevirtual 69, 3) := by decide +kernel
theorem dX5_name_5 : decode cX5_name 5 = .ok (.ifCond .eq 4, 3) := by decide +kernel
theorem dX5_name_8 : decode cX5_name 8 = .ok (.return_, 1) := by decide +kernel
theorem dX5_name_9 : decode cX5_name 9 = .ok (.iconst 0, 1) := by decide +kernel
theorem dX5_name_10 : decode cX5_name 10 = .ok (.istore 4, 2) := by decide +kernel
theorem dX5_name_12 : decode cX5_name 12 = .ok (.iload 4, 2) := by decide +kernel
theorem dX5_name_14 : decode cX5_name 14 = .ok (.bipush 6, 2) := by decide +kernel
theorem dX5_name_16 : decode cX5_name 16 = .ok (.if_icmp .ge 33, 3) := by decide +kernel
theorem dX5_name_19 : decode cX5_name 19 = .ok (.aload_n 0, 1) := by decide +kernel
theorem dX5_name_20 : decode cX5_name 20 = .ok (.getfield 21, 3) := by decide +kernel
theorem dX5_name_23 : decode cX5_name 23 = .ok (.bipush 6, 2) := by decide +kernel
theorem dX5_name_25 : decode cX5_name 25 = .ok (.iload_n 1, 1) := by decide +kernel
theorem dX5_name_26 : decode cX5_name 26 = .ok (.imul, 1) := by decide +kernel
theorem dX5_name_27 : decode cX5_name 27 = .ok (.iload 4, 2) := by decide +kernel
theorem dX5_name_29 : decode cX5_name 29 = .ok (.iadd, 1) := by decide +kernel
theorem dX5_name_30 : decode cX5_name 30 = .ok (.lload_n 2, 1) := by decide +kernel
theorem dX5_name_31 : decode cX5_name 31 = .ok (.bipush 8, 2) := by decide +kernel
theorem dX5_name_33 : decode cX5_name 33 = .ok (.iload 4, 2) := by decide +kernel
theorem dX5_name_35 : decode cX5_name 35 = .ok (.imul, 1) := by decide +kernel
theorem dX5_name_36 : decode cX5_name 36 = .ok (.lshr, 1) := by decide +kernel
theorem dX5_name_37 : decode cX5_name 37 = .ok (.ldc2_w 72, 3) := by decide +kernel
theorem dX5_name_40 : decode cX5_name 40 = .ok (.land, 1) := by decide +kernel
theorem dX5_name_41 : decode cX5_name 41 = .ok (.l2i, 1) := by decide +kernel
theorem dX5_name_42 : decode cX5_name 42 = .ok (.iastore, 1) := by decide +kernel
theorem dX5_name_43 : decode cX5_name 43 = .ok (.iinc 4 1, 3) := by decide +kernel
theorem dX5_name_46 : decode cX5_name 46 = .ok (.goto (-34), 3) := by decide +kernel
theorem dX5_name_49 : decode cX5_name 49 = .ok (.aload_n 0, 1) := by decide +kernel
theorem dX5_name_50 : decode cX5_name 50 = .ok (.getfield 24, 3) := by decide +kernel
theorem dX5_name_53 : decode cX5_name 53 = .ok (.iload_n 1, 1) := by decide +kernel
theorem dX5_name_54 : decode cX5_name 54 = .ok (.iconst 0, 1) := by decide +kernel
theorem dX5_name_55 : decode cX5_name 55 = .ok (.bastore, 1) := by decide +kernel
theorem dX5_name_56 : decode cX5_name 56 = .ok (.return_, 1) := by decide +kernel
theorem dX5_take_0 : decode cX5_take 0 = .ok (.aload_n 0, 1) := by decide +kernel
theorem dX5_take_1 : decode cX5_take 1 = .ok (.getfield 27, 3) := by decide +kernel
theorem dX5_take_4 : decode cX5_take 4 = .ok (.iload_n 1, 1) := by decide +kernel
theorem dX5_take_5 : decode cX5_take 5 = .ok (.aload_n 0, 1) := by decide +kernel
theorem dX5_take_6 : decode cX5_take 6 = .ok (.getfield 7, 3) := by decide +kernel
theorem dX5_take_9 : decode cX5_take 9 = .ok (.bipush 16, 2) := by decide +kernel
theorem dX5_take_11 : decode cX5_take 11 = .ok (.iload_n 2, 1) := by decide +kernel
theorem dX5_take_12 : decode cX5_take 12 = .ok (.imul, 1) := by decide +kernel
theorem dX5_take_13 : decode cX5_take 13 = .ok (.bipush 7, 2) := by decide +kernel
theorem dX5_take_15 : decode cX5_take 15 = .ok (.iadd, 1) := by decide +kernel
theorem dX5_take_16 : decode cX5_take 16 = .ok (.iaload, 1) := by decide +kernel
theorem dX5_take_17 : decode cX5_take 17 = .ok (.iastore, 1) := by decide +kernel
theorem dX5_take_18 : decode cX5_take 18 = .ok (.aload_n 0, 1) := by decide +kernel
theorem dX5_take_19 : decode cX5_take 19 = .ok (.getfield 30, 3) := by decide +kernel
theorem dX5_take_22 : decode cX5_take 22 = .ok (.iload_n 1, 1) := by decide +kernel
theorem dX5_take_23 : decode cX5_take 23 = .ok (.aload_n 0, 1) := by decide +kernel
theorem dX5_take_24 : decode cX5_take 24 = .ok (.getfield 7, 3) := by decide +kernel
theorem dX5_take_27 : decode cX5_take 27 = .ok (.bipush 16, 2) := by decide +kernel
theorem dX5_take_29 : decode cX5_take 29 = .ok (.iload_n 2, 1) := by decide +kernel
theorem dX5_take_30 : decode cX5_take 30 = .ok (.imul, 1) := by decide +kernel
theorem dX5_take_31 : decode cX5_take 31 = .ok (.bipush 8, 2) := by decide +kernel
theorem dX5_take_33 : decode cX5_take 33 = .ok (.iadd, 1) := by decide +kernel
theorem dX5_take_34 : decode cX5_take 34 = .ok (.iaload, 1) := by decide +kernel
theorem dX5_take_35 : decode cX5_take 35 = .ok (.iastore, 1) := by decide +kernel
theorem dX5_take_36 : decode cX5_take 36 = .ok (.iconst 0, 1) := by decide +kernel
theorem dX5_take_37 : decode cX5_take 37 = .ok (.istore_n 3, 1) := by decide +kernel
theorem dX5_take_38 : decode cX5_take 38 = .ok (.iload_n 3, 1) := by decide +kernel
theorem dX5_take_39 : decode cX5_take 39 = .ok (.bipush 7, 2) := by decide +kernel
theorem dX5_take_41 : decode cX5_take 41 = .ok (.if_icmp .ge 34, 3) := by decide +kernel
theorem dX5_take_44 : decode cX5_take 44 = .ok (.aload_n 0, 1) := by decide +kernel
theorem dX5_take_45 : decode cX5_take 45 = .ok (.getfield 39, 3) := by decide +kernel
theorem dX5_take_48 : decode cX5_take 48 = .ok (.bipush 7, 2) := by decide +kernel
theorem dX5_take_50 : decode cX5_take 50 = .ok (.iload_n 1, 1) := by decide +kernel
theorem dX5_take_51 : decode cX5_take 51 = .ok (.imul, 1) := by decide +kernel
theorem dX5_take_52 : decode cX5_take 52 = .ok (.iload_n 3, 1) := by decide +kernel
theorem dX5_take_53 : decode cX5_take 53 = .ok (.iadd, 1) := by decide +kernel
theorem dX5_take_54 : decode cX5_take 54 = .ok (.aload_n 0, 1) := by decide +kernel
theorem dX5_take_55 : decode cX5_take 55 = .ok (.getfield 7, 3) := by decide +kernel
theorem dX5_take_58 : decode cX5_take 58 = .ok (.bipush 16, 2) := by decide +kernel
theorem dX5_take_60 : decode cX5_take 60 = .ok (.iload_n 2, 1) := by decide +kernel
theorem dX5_take_61 : decode cX5_take 61 = .ok (.imul, 1) := by decide +kernel
theorem dX5_take_62 : decode cX5_take 62 = .ok (.bipush 9, 2) := by decide +kernel
theorem dX5_take_64 : decode cX5_take 64 = .ok (.iadd, 1) := by decide +kernel
theorem dX5_take_65 : decode cX5_take 65 = .ok (.iload_n 3, 1) := by decide +kernel
theorem dX5_take_66 : decode cX5_take 66 = .ok (.iadd, 1) := by decide +kernel
theorem dX5_take_67 : decode cX5_take 67 = .ok (.iaload, 1) := by decide +kernel
theorem dX5_take_68 : decode cX5_take 68 = .ok (.iastore, 1) := by decide +kernel
theorem dX5_take_69 : decode cX5_take 69 = .ok (.iinc 3 1, 3) := by decide +kernel
theorem dX5_take_72 : decode cX5_take 72 = .ok (.goto (-34), 3) := by decide +kernel
theorem dX5_take_75 : decode cX5_take 75 = .ok (.return_, 1) := by decide +kernel
set_option maxRecDepth 20000 in
theorem ggX5_open_X5_noControl : GoodIn wsX5_open wsX5_noControl := goodIn_r _ [9, 10, 28, 29, 30, 31, 32, 33, 34, 35, 36, 37, 38, 39, 40, 41, 42] (by decide +kernel) (by decide +kernel)
set_option maxRecDepth 20000 in
theorem gX5_open_X5_noControl : GoodIn wsX5_open (wsV RX5 69 RX5 yX5_noControl wsX5_noControl) := goodIn_app (goodIn_of _ (by decide +kernel)) ggX5_open_X5_noControl
set_option maxRecDepth 20000 in
theorem ggX5_open_X5_first : GoodIn wsX5_open wsX5_first := goodIn_r _ [14, 4, 15, 16, 17, 8, 18, 19, 20, 28, 29, 30, 31, 32, 33, 34, 35, 36, 37, 38, 39, 40, 41, 42] (by decide +kernel) (by decide +kernel)
set_option maxRecDepth 20000 in
theorem gX5_open_X5_first : GoodIn wsX5_open (wsV RX5 74 RX5 yX5_first wsX5_first) := goodIn_app (goodIn_of _ (by decide +kernel)) ggX5_open_X5_first
set_option maxRecDepth 20000 in
theorem ggX5_open_X5_take : GoodIn wsX5_open wsX5_take := goodIn_r _ [24, 25, 4, 26, 27, 28, 29, 30, 31, 32, 33, 34, 35, 36, 37, 38, 39, 40, 41, 42] (by decide +kernel) (by decide +kernel)
set_option maxRecDepth 20000 in
theorem gX5_open_X5_take : GoodIn wsX5_open (wsV RX5 78 RX5 yX5_take wsX5_take) := goodIn_app (goodIn_of _ (by decide +kernel)) ggX5_open_X5_take
theorem dX5_open_0 : decode cX5_open 0 = .ok (.aload_n 0, 1) := by decide +kernel
theorem dX5_open_1 : decode cX5_open 1 = .ok (.iload_n 1, 1) := by decide +kernel
theorem dX5_open_2 : decode cX5_open 2 = .ok (.invokevirtual 69, 3) := by decide +kernel
theorem dX5_open_5 : decode cX5_open 5 = .ok (.ifCond .eq 5, 3) := by decide +kernel
theorem dX5_open_8 : decode cX5_open 8 = .ok (.iconst 0, 1) := by decide +kernel
theorem dX5_open_9 : decode cX5_open 9 = .ok (.ireturn, 1) := by decide +kernel
theorem dX5_open_10 : decode cX5_open 10 = .ok (.aload_n 0, 1) := by decide +kernel
theorem dX5_open_11 : decode cX5_open 11 = .ok (.iload_n 1, 1) := by decide +kernel
theorem dX5_open_12 : decode cX5_open 12 = .ok (.iconst 0, 1) := by decide +kernel
theorem dX5_open_13 : decode cX5_open 13 = .ok (.iconst 0, 1) := by decide +kernel
theorem dX5_open_14 : decode cX5_open 14 = .ok (.invokevirtual 74, 3) := by decide +kernel
theorem dX5_open_17 : decode cX5_open 17 = .ok (.istore_n 2, 1) := by decide +kernel
theorem dX5_open_18 : decode cX5_open 18 = .ok (.aload_n 0, 1) := by decide +kernel
theorem dX5_open_19 : decode cX5_open 19 = .ok (.getfield 24, 3) := by decide +kernel
theorem dX5_open_22 : decode cX5_open 22 = .ok (.iload_n 1, 1) := by decide +kernel
theorem dX5_open_23 : decode cX5_open 23 = .ok (.iload_n 2, 1) := by decide +kernel
theorem dX5_open_24 : decode cX5_open 24 = .ok (.ifCond .lt 7, 3) := by decide +kernel
theorem dX5_open_27 : decode cX5_open 27 = .ok (.iconst 1, 1) := by decide +kernel
theorem dX5_open_28 : decode cX5_open 28 = .ok (.goto 4, 3) := by decide +kernel
theorem dX5_open_31 : decode cX5_open 31 = .ok (.iconst 0, 1) := by decide +kernel
theorem dX5_open_32 : decode cX5_open 32 = .ok (.bastore, 1) := by decide +kernel
theorem dX5_open_33 : decode cX5_open 33 = .ok (.iload_n 2, 1) := by decide +kernel
theorem dX5_open_34 : decode cX5_open 34 = .ok (.ifCond .ge 5, 3) := by decide +kernel
theorem dX5_open_37 : decode cX5_open 37 = .ok (.iconst (-1), 1) := by decide +kernel
theorem dX5_open_38 : decode cX5_open 38 = .ok (.ireturn, 1) := by decide +kernel
theorem dX5_open_39 : decode cX5_open 39 = .ok (.aload_n 0, 1) := by decide +kernel
theorem dX5_open_40 : decode cX5_open 40 = .ok (.iload_n 1, 1) := by decide +kernel
theorem dX5_open_41 : decode cX5_open 41 = .ok (.iload_n 2, 1) := by decide +kernel
theorem dX5_open_42 : decode cX5_open 42 = .ok (.invokevirtual 78, 3) := by decide +kernel
theorem dX5_open_45 : decode cX5_open 45 = .ok (.aload_n 0, 1) := by decide +kernel
theorem dX5_open_46 : decode cX5_open 46 = .ok (.getfield 33, 3) := by decide +kernel
theorem dX5_open_49 : decode cX5_open 49 = .ok (.iload_n 1, 1) := by decide +kernel
theorem dX5_open_50 : decode cX5_open 50 = .ok (.iconst 0, 1) := by decide +kernel
theorem dX5_open_51 : decode cX5_open 51 = .ok (.iastore, 1) := by decide +kernel
theorem dX5_open_52 : decode cX5_open 52 = .ok (.aload_n 0, 1) := by decide +kernel
theorem dX5_open_53 : decode cX5_open 53 = .ok (.getfield 36, 3) := by decide +kernel
theorem dX5_open_56 : decode cX5_open 56 = .ok (.iload_n 1, 1) := by decide +kernel
theorem dX5_open_57 : decode cX5_open 57 = .ok (.aload_n 0, 1) := by decide +kernel
theorem dX5_open_58 : decode cX5_open 58 = .ok (.getfield 7, 3) := by decide +kernel
theorem dX5_open_61 : decode cX5_open 61 = .ok (.bipush 16, 2) := by decide +kernel
theorem dX5_open_63 : decode cX5_open 63 = .ok (.iload_n 2, 1) := by decide +kernel
theorem dX5_open_64 : decode cX5_open 64 = .ok (.imul, 1) := by decide +kernel
theorem dX5_open_65 : decode cX5_open 65 = .ok (.iconst 5, 1) := by decide +kernel
theorem dX5_open_66 : decode cX5_open 66 = .ok (.iadd, 1) := by decide +kernel
theorem dX5_open_67 : decode cX5_open 67 = .ok (.iaload, 1) := by decide +kernel
theorem dX5_open_68 : decode cX5_open 68 = .ok (.bipush 127, 2) := by decide +kernel
theorem dX5_open_70 : decode cX5_open 70 = .ok (.if_icmp .le 7, 3) := by decide +kernel
theorem dX5_open_73 : decode cX5_open 73 = .ok (.iconst 1, 1) := by decide +kernel
theorem dX5_open_74 : decode cX5_open 74 = .ok (.goto 4, 3) := by decide +kernel
theorem dX5_open_77 : decode cX5_open 77 = .ok (.iconst 0, 1) := by decide +kernel
theorem dX5_open_78 : decode cX5_open 78 = .ok (.bastore, 1) := by decide +kernel
theorem dX5_open_79 : decode cX5_open 79 = .ok (.iload_n 2, 1) := by decide +kernel
theorem dX5_open_80 : decode cX5_open 80 = .ok (.ireturn, 1) := by decide +kernel
set_option maxRecDepth 20000 in
theorem ggX5_makeOne_X5_firstFree : GoodIn wsX5_makeOne wsX5_firstFree := goodIn_r _ [12, 13, 14, 15, 11, 16, 5, 23, 24, 25, 26, 27, 28, 29, 30, 31, 32, 33, 34, 35, 36, 37] (by decide +kernel) (by decide +kernel)
set_option maxRecDepth 20000 in
theorem gX5_makeOne_X5_firstFree : GoodIn wsX5_makeOne (wsV RX5 82 RX5 yX5_firstFree wsX5_firstFree) := goodIn_app (goodIn_of _ (by decide +kernel)) ggX5_makeOne_X5_firstFree
set_option maxRecDepth 20000 in
theorem ggX5_makeOne_X5_canWrite : GoodIn wsX5_makeOne wsX5_canWrite := goodIn_r _ [20, 21, 22, 23, 24, 25, 26, 27, 28, 29, 30, 31, 32, 33, 34, 35, 36, 37] (by decide +kernel) (by decide +kernel)
set_option maxRecDepth 20000 in
theorem gX5_makeOne_X5_canWrite : GoodIn wsX5_makeOne (wsV RX5 85 RX5 yX5_canWrite wsX5_canWrite) := goodIn_app (goodIn_of _ (by decide +kernel)) ggX5_makeOne_X5_canWrite
theorem dX5_makeOne_0 : decode cX5_makeOne 0 = .ok (.aload_n 0, 1) := by decide +kernel
theorem dX5_makeOne_1 : decode cX5_makeOne 1 = .ok (.invokevirtual 82, 3) := by decide +kernel
theorem dX5_makeOne_4 : decode cX5_makeOne 4 = .ok (.istore_n 3, 1) := by decide +kernel
theorem dX5_makeOne_5 : decode cX5_makeOne 5 = .ok (.iload_n 3, 1) := by decide +kernel
theorem dX5_makeOne_6 : decode cX5_makeOne 6 = .ok (.ifCond .ge 6, 3) := by decide +kernel
theorem dX5_makeOne_9 : decode cX5_makeOne 9 = .ok (.bipush (-2), 2) := by decide +kernel
theorem dX5_makeOne_11 : decode cX5_makeOne 11 = .ok (.ireturn, 1) := by decide +kernel
theorem dX5_makeOne_12 : decode cX5_makeOne 12 = .ok (.aload_n 0, 1) := by decide +kernel
theorem dX5_makeOne_13 : decode cX5_makeOne 13 = .ok (.getfield 27, 3) := by decide +kernel
theorem dX5_makeOne_16 : decode cX5_makeOne 16 = .ok (.iload_n 1, 1) := by decide +kernel
theorem dX5_makeOne_17 : decode cX5_makeOne 17 = .ok (.iload_n 2, 1) := by decide +kernel
theorem dX5_makeOne_18 : decode cX5_makeOne 18 = .ok (.iastore, 1) := by decide +kernel
theorem dX5_makeOne_19 : decode cX5_makeOne 19 = .ok (.aload_n 0, 1) := by decide +kernel
theorem dX5_makeOne_20 : decode cX5_makeOne 20 = .ok (.getfield 30, 3) := by decide +kernel
theorem dX5_makeOne_23 : decode cX5_makeOne 23 = .ok (.iload_n 1, 1) := by decide +kernel
theorem dX5_makeOne_24 : decode cX5_makeOne 24 = .ok (.iconst 0, 1) := by decide +kernel
theorem dX5_makeOne_25 : decode cX5_makeOne 25 = .ok (.iastore, 1) := by decide +kernel
theorem dX5_makeOne_26 : decode cX5_makeOne 26 = .ok (.iconst 0, 1) := by decide +kernel
theorem dX5_makeOne_27 : decode cX5_makeOne 27 = .ok (.istore 4, 2) := by decide +kernel
theorem dX5_makeOne_29 : decode cX5_makeOne 29 = .ok (.iload 4, 2) := by decide +kernel
theorem dX5_makeOne_31 : decode cX5_makeOne 31 = .ok (.bipush 7, 2) := by decide +kernel
theorem dX5_makeOne_33 : decode cX5_makeOne 33 = .ok (.if_icmp .ge 22, 3) := by decide +kernel
theorem dX5_makeOne_36 : decode cX5_makeOne 36 = .ok (.aload_n 0, 1) := by decide +kernel
theorem dX5_makeOne_37 : decode cX5_makeOne 37 = .ok (.getfield 39, 3) := by decide +kernel
theorem dX5_makeOne_40 : decode cX5_makeOne 40 = .ok (.bipush 7, 2) := by decide +kernel
theorem dX5_makeOne_42 : decode cX5_makeOne 42 = .ok (.iload_n 1, 1) := by decide +kernel
theorem dX5_makeOne_43 : decode cX5_makeOne 43 = .ok (.imul, 1) := by decide +kernel
theorem dX5_makeOne_44 : decode cX5_makeOne 44 = .ok (.iload 4, 2) := by decide +kernel
theorem dX5_makeOne_46 : decode cX5_makeOne 46 = .ok (.iadd, 1) := by decide +kernel
theorem dX5_makeOne_47 : decode cX5_makeOne 47 = .ok (.iconst 0, 1) := by decide +kernel
theorem dX5_makeOne_48 : decode cX5_makeOne 48 = .ok (.iastore, 1) := by decide +kernel
theorem dX5_makeOne_49 : decode cX5_makeOne 49 = .ok (.iinc 4 1, 3) := by decide +kernel
theorem dX5_makeOne_52 : decode cX5_makeOne 52 = .ok (.goto (-23), 3) := by decide +kernel
theorem dX5_makeOne_55 : decode cX5_makeOne 55 = .ok (.aload_n 0, 1) := by decide +kernel
theorem dX5_makeOne_56 : decode cX5_makeOne 56 = .ok (.getfield 24, 3) := by decide +kernel
theorem dX5_makeOne_59 : decode cX5_makeOne 59 = .ok (.iload_n 1, 1) := by decide +kernel
theorem dX5_makeOne_60 : decode cX5_makeOne 60 = .ok (.iconst 1, 1) := by decide +kernel
theorem dX5_makeOne_61 : decode cX5_makeOne 61 = .ok (.bastore, 1) := by decide +kernel
theorem dX5_makeOne_62 : decode cX5_makeOne 62 = .ok (.aload_n 0, 1) := by decide +kernel
theorem dX5_makeOne_63 : decode cX5_makeOne 63 = .ok (.invokevirtual 85, 3) := by decide +kernel
theorem dX5_makeOne_66 : decode cX5_makeOne 66 = .ok (.ifCond .ne 6, 3) := by decide +kernel
theorem dX5_makeOne_69 : decode cX5_makeOne 69 = .ok (.bipush (-9), 2) := by decide +kernel
theorem dX5_makeOne_71 : decode cX5_makeOne 71 = .ok (.ireturn, 1) := by decide +kernel
theorem dX5_makeOne_72 : decode cX5_makeOne 72 = .ok (.aload_n 0, 1) := by decide +kernel
theorem dX5_makeOne_73 : decode cX5_makeOne 73 = .ok (.getfield 7, 3) := by decide +kernel
theorem dX5_makeOne_76 : decode cX5_makeOne 76 = .ok (.bipush 16, 2) := by decide +kernel
theorem dX5_makeOne_78 : decode cX5_makeOne 78 = .ok (.iload_n 3, 1) := by decide +kernel
theorem dX5_makeOne_79 : decode cX5_makeOne 79 = .ok (.imul, 1) := by decide +kernel
theorem dX5_makeOne_80 : decode cX5_makeOne 80 = .ok (.aload_n 0, 1) := by decide +kernel
theorem dX5_makeOne_81 : decode cX5_makeOne 81 = .ok (.getfield 51, 3) := by decide +kernel
theorem dX5_makeOne_84 : decode cX5_makeOne 84 = .ok (.iastore, 1) := by decide +kernel
theorem dX5_makeOne_85 : decode cX5_makeOne 85 = .ok (.iconst 0, 1) := by decide +kernel
theorem dX5_makeOne_86 : decode cX5_makeOne 86 = .ok (.istore 4, 2) := by decide +kernel
theorem dX5_makeOne_88 : decode cX5_makeOne 88 = .ok (.iload 4, 2) := by decide +kernel
theorem dX5_makeOne_90 : decode cX5_makeOne 90 = .ok (.bipush 6, 2) := by decide +kernel
theorem dX5_makeOne_92 : decode cX5_makeOne 92 = .ok (.if_icmp .ge 35, 3) := by decide +kernel
theorem dX5_makeOne_95 : decode cX5_makeOne 95 = .ok (.aload_n 0, 1) := by decide +kernel
theorem dX5_makeOne_96 : decode cX5_makeOne 96 = .ok (.getfield 7, 3) := by decide +kernel
theorem dX5_makeOne_99 : decode cX5_makeOne 99 = .ok (.bipush 16, 2) := by decide +kernel
theorem dX5_makeOne_101 : decode cX5_makeOne 101 = .ok (.iload_n 3, 1) := by decide +kernel
theorem dX5_makeOne_102 : decode cX5_makeOne 102 = .ok (.imul, 1) := by decide +kernel
theorem dX5_makeOne_103 : decode cX5_makeOne 103 = .ok (.iconst 1, 1) := by decide +kernel
theorem dX5_makeOne_104 : decode cX5_makeOne 104 = .ok (.iadd, 1) := by decide +kernel
theorem dX5_makeOne_105 : decode cX5_makeOne 105 = .ok (.iload 4, 2) := by decide +kernel
theorem dX5_makeOne_107 : decode cX5_makeOne 107 = .ok (.iadd, 1) := by decide +kernel
theorem dX5_makeOne_108 : decode cX5_makeOne 108 = .ok (.aload_n 0, 1) := by decide +kernel
theorem dX5_makeOne_109 : decode cX5_makeOne 109 = .ok (.getfield 21, 3) := by decide +kernel
theorem dX5_makeOne_112 : decode cX5_makeOne 112 = .ok (.bipush 6, 2) := by decide +kernel
theorem dX5_makeOne_114 : decode cX5_makeOne 114 = .ok (.iload_n 1, 1) := by decide +kernel
theorem dX5_makeOne_115 : decode cX5_makeOne 115 = .ok (.imul, 1) := by decide +kernel
theorem dX5_makeOne_116 : decode cX5_makeOne 116 = .ok (.iload 4, 2) := by decide +kernel
theorem dX5_makeOne_118 : decode cX5_makeOne 118 = .ok (.iadd, 1) := by decide +kernel
theorem dX5_makeOne_119 : decode cX5_makeOne 119 = .ok (.iaload, 1) := by decide +kernel
theorem dX5_makeOne_120 : decode cX5_makeOne 120 = .ok (.iastore, 1) := by decide +kernel
theorem dX5_makeOne_121 : decode cX5_makeOne 121 = .ok (.iinc 4 1, 3) := by decide +kernel
theorem dX5_makeOne_124 : decode cX5_makeOne 124 = .ok (.goto (-36), 3) := by decide +kernel
theorem dX5_makeOne_127 : decode cX5_makeOne 127 = .ok (.aload_n 0, 1) := by decide +kernel
theorem dX5_makeOne_128 : decode cX5_makeOne 128 = .ok (.getfield 7, 3) := by decide +kernel
theorem dX5_makeOne_131 : decode cX5_makeOne 131 = .ok (.bipush 16, 2) := by decide +kernel
theorem dX5_makeOne_133 : decode cX5_makeOne 133 = .ok (.iload_n 3, 1) := by decide +kernel
theorem dX5_makeOne_134 : decode cX5_makeOne 134 = .ok (.imul, 1) := by decide +kernel
theorem dX5_makeOne_135 : decode cX5_makeOne 135 = .ok (.bipush 7, 2) := by decide +kernel
theorem dX5_makeOne_137 : decode cX5_makeOne 137 = .ok (.iadd, 1) := by decide +kernel
theorem dX5_makeOne_138 : decode cX5_makeOne 138 = .ok (.iload_n 2, 1) := by decide +kernel
theorem dX5_makeOne_139 : decode cX5_makeOne 139 = .ok (.iastore, 1) := by decide +kernel
theorem dX5_makeOne_140 : decode cX5_makeOne 140 = .ok (.bipush 8, 2) := by decide +kernel
theorem dX5_makeOne_142 : decode cX5_makeOne 142 = .ok (.istore 4, 2) := by decide +kernel
theorem dX5_makeOne_144 : decode cX5_makeOne 144 = .ok (.iload 4, 2) := by decide +kernel
theorem dX5_makeOne_146 : decode cX5_makeOne 146 = .ok (.bipush 16, 2) := by decide +kernel
theorem dX5_makeOne_148 : decode cX5_makeOne 148 = .ok (.if_icmp .ge 22, 3) := by decide +kernel
theorem dX5_makeOne_151 : decode cX5_makeOne 151 = .ok (.aload_n 0, 1) := by decide +kernel
theorem dX5_makeOne_152 : decode cX5_makeOne 152 = .ok (.getfield 7, 3) := by decide +kernel
theorem dX5_makeOne_155 : decode cX5_makeOne 155 = .ok (.bipush 16, 2) := by decide +kernel
theorem dX5_makeOne_157 : decode cX5_makeOne 157 = .ok (.iload_n 3, 1) := by decide +kernel
theorem dX5_makeOne_158 : decode cX5_makeOne 158 = .ok (.imul, 1) := by decide +kernel
theorem dX5_makeOne_159 : decode cX5_makeOne 159 = .ok (.iload 4, 2) := by decide +kernel
theorem dX5_makeOne_161 : decode cX5_makeOne 161 = .ok (.iadd, 1) := by decide +kernel
theorem dX5_makeOne_162 : decode cX5_makeOne 162 = .ok (.iconst 0, 1) := by decide +kernel
theorem dX5_makeOne_163 : decode cX5_makeOne 163 = .ok (.iastore, 1) := by decide +kernel
theorem dX5_makeOne_164 : decode cX5_makeOne 164 = .ok (.iinc 4 1, 3) := by decide +kernel
theorem dX5_makeOne_167 : decode cX5_makeOne 167 = .ok (.goto (-23), 3) := by decide +kernel
theorem dX5_makeOne_170 : decode cX5_makeOne 170 = .ok (.iload_n 3, 1) := by decide +kernel
theorem dX5_makeOne_171 : decode cX5_makeOne 171 = .ok (.ireturn, 1) := by decide +kernel
set_option maxRecDepth 20000 in
theorem ggX5_make_X5_noControl : GoodIn wsX5_make wsX5_noControl := goodIn_r _ [7, 8, 34, 35, 36, 37, 38, 39, 40, 41, 42, 43, 44, 45, 46, 47, 48] (by decide +kernel) (by decide +kernel)
set_option maxRecDepth 20000 in
theorem gX5_make_X5_noControl : GoodIn wsX5_make (wsV RX5 69 RX5 yX5_noControl wsX5_noControl) := goodIn_app (goodIn_of _ (by decide +kernel)) ggX5_make_X5_noControl
set_option maxRecDepth 20000 in
theorem ggX5_make_X5_makeOne : GoodIn wsX5_make wsX5_makeOne := goodIn_r _ [12, 13, 14, 15, 16, 17, 18, 19, 20, 21, 22, 6, 23, 24, 25, 26, 27, 28, 29, 30, 31, 32, 33, 34, 35, 36, 37, 38, 39, 40, 41, 42, 43, 44, 45, 46, 47, 48] (by decide +kernel) (by decide +kernel)
set_option maxRecDepth 20000 in
theorem gX5_make_X5_makeOne : GoodIn wsX5_make (wsV RX5 89 RX5 yX5_makeOne wsX5_makeOne) := goodIn_app (goodIn_of _ (by decide +kernel)) ggX5_make_X5_makeOne
theorem dX5_make_0 : decode cX5_make 0 = .ok (.aload_n 0, 1) := by decide +kernel
theorem dX5_make_1 : decode cX5_make 1 = .ok (.iload_n 1, 1) := by decide +kernel
theorem dX5_make_2 : decode cX5_make 2 = .ok (.invokevirtual 69, 3) := by decide +kernel
theorem dX5_make_5 : decode cX5_make 5 = .ok (.ifCond .eq 5, 3) := by decide +kernel
theorem dX5_make_8 : decode cX5_make 8 = .ok (.iconst 0, 1) := by decide +kernel
theorem dX5_make_9 : decode cX5_make 9 = .ok (.ireturn, 1) := by decide +kernel
theorem dX5_make_10 : decode cX5_make 10 = .ok (.aload_n 0, 1) := by decide +kernel
theorem dX5_make_11 : decode cX5_make 11 = .ok (.iload_n 1, 1) := by decide +kernel
theorem dX5_make_12 : decode cX5_make 12 = .ok (.iconst 0, 1) := by decide +kernel
theorem dX5_make_13 : decode cX5_make 13 = .ok (.invokevirtual 89, 3) := by decide +kernel
theorem dX5_make_16 : decode cX5_make 16 = .ok (.istore_n 2, 1) := by decide +kernel
theorem dX5_make_17 : decode cX5_make 17 = .ok (.iload_n 2, 1) := by decide +kernel
theorem dX5_make_18 : decode cX5_make 18 = .ok (.bipush (-2), 2) := by decide +kernel
theorem dX5_make_20 : decode cX5_make 20 = .ok (.if_icmp .eq 17, 3) := by decide +kernel
theorem dX5_make_23 : decode cX5_make 23 = .ok (.aload_n 0, 1) := by decide +kernel
theorem dX5_make_24 : decode cX5_make 24 = .ok (.getfield 33, 3) := by decide +kernel
theorem dX5_make_27 : decode cX5_make 27 = .ok (.iload_n 1, 1) := by decide +kernel
theorem dX5_make_28 : decode cX5_make 28 = .ok (.iconst 0, 1) := by decide +kernel
theorem dX5_make_29 : decode cX5_make 29 = .ok (.iastore, 1) := by decide +kernel
theorem dX5_make_30 : decode cX5_make 30 = .ok (.aload_n 0, 1) := by decide +kernel
theorem dX5_make_31 : decode cX5_make 31 = .ok (.getfield 36, 3) := by decide +kernel
theorem dX5_make_34 : decode cX5_make 34 = .ok (.iload_n 1, 1) := by decide +kernel
theorem dX5_make_35 : decode cX5_make 35 = .ok (.iconst 0, 1) := by decide +kernel
theorem dX5_make_36 : decode cX5_make 36 = .ok (.bastore, 1) := by decide +kernel
theorem dX5_make_37 : decode cX5_make 37 = .ok (.iload_n 2, 1) := by decide +kernel
theorem dX5_make_38 : decode cX5_make 38 = .ok (.ireturn, 1) := by decide +kernel
set_option maxRecDepth 20000 in
theorem ggX5_store_X5_first : GoodIn wsX5_store wsX5_first := goodIn_r _ [9, 2, 10, 11, 12, 8, 13, 14, 15, 22, 23, 24, 25, 26, 27, 28, 29, 30, 31, 32, 33, 34, 35, 36] (by decide +kernel) (by decide +kernel)
set_option maxRecDepth 20000 in
theorem gX5_store_X5_first : GoodIn wsX5_store (wsV RX5 74 RX5 yX5_first wsX5_first) := goodIn_app (goodIn_of _ (by decide +kernel)) ggX5_store_X5_first
set_option maxRecDepth 20000 in
theorem ggX5_store_X5_canWrite : GoodIn wsX5_store wsX5_canWrite := goodIn_r _ [19, 20, 21, 22, 23, 24, 25, 26, 27, 28, 29, 30, 31, 32, 33, 34, 35, 36] (by decide +kernel) (by decide +kernel)
set_option maxRecDepth 20000 in
theorem gX5_store_X5_canWrite : GoodIn wsX5_store (wsV RX5 85 RX5 yX5_canWrite wsX5_canWrite) := goodIn_app (goodIn_of _ (by decide +kernel)) ggX5_store_X5_canWrite
theorem dX5_store_0 : decode cX5_store 0 = .ok (.aload_n 0, 1) := by decide +kernel
theorem dX5_store_1 : decode cX5_store 1 = .ok (.iload_n 1, 1) := by decide +kernel
theorem dX5_store_2 : decode cX5_store 2 = .ok (.iconst 0, 1) := by decide +kernel
theorem dX5_store_3 : decode cX5_store 3 = .ok (.aload_n 0, 1) := by decide +kernel
theorem dX5_store_4 : decode cX5_store 4 = .ok (.getfield 27, 3) := by decide +kernel
theorem dX5_store_7 : decode cX5_store 7 = .ok (.iload_n 1, 1) := by decide +kernel
theorem dX5_store_8 : decode cX5_store 8 = .ok (.iaload, 1) := by decide +kernel
theorem dX5_store_9 : decode cX5_store 9 = .ok (.invokevirtual 74, 3) := by decide +kernel
theorem dX5_store_12 : decode cX5_store 12 = .ok (.istore_n 2, 1) := by decide +kernel
theorem dX5_store_13 : decode cX5_store 13 = .ok (.iload_n 2, 1) := by decide +kernel
theorem dX5_store_14 : decode cX5_store 14 = .ok (.ifCond .ge 5, 3) := by decide +kernel
theorem dX5_store_17 : decode cX5_store 17 = .ok (.iconst (-1), 1) := by decide +kernel
theorem dX5_store_18 : decode cX5_store 18 = .ok (.ireturn, 1) := by decide +kernel
theorem dX5_store_19 : decode cX5_store 19 = .ok (.aload_n 0, 1) := by decide +kernel
theorem dX5_store_20 : decode cX5_store 20 = .ok (.invokevirtual 85, 3) := by decide +kernel
theorem dX5_store_23 : decode cX5_store 23 = .ok (.ifCond .ne 6, 3) := by decide +kernel
theorem dX5_store_26 : decode cX5_store 26 = .ok (.bipush (-9), 2) := by decide +kernel
theorem dX5_store_28 : decode cX5_store 28 = .ok (.ireturn, 1) := by decide +kernel
theorem dX5_store_29 : decode cX5_store 29 = .ok (.aload_n 0, 1) := by decide +kernel
theorem dX5_store_30 : decode cX5_store 30 = .ok (.getfield 7, 3) := by decide +kernel
theorem dX5_store_33 : decode cX5_store 33 = .ok (.bipush 16, 2) := by decide +kernel
theorem dX5_store_35 : decode cX5_store 35 = .ok (.iload_n 2, 1) := by decide +kernel
theorem dX5_store_36 : decode cX5_store 36 = .ok (.imul, 1) := by decide +kernel
theorem dX5_store_37 : decode cX5_store 37 = .ok (.bipush 8, 2) := by decide +kernel
theorem dX5_store_39 : decode cX5_store 39 = .ok (.iadd, 1) := by decide +kernel
theorem dX5_store_40 : decode cX5_store 40 = .ok (.aload_n 0, 1) := by decide +kernel
theorem dX5_store_41 : decode cX5_store 41 = .ok (.getfield 30, 3) := by decide +kernel
theorem dX5_store_44 : decode cX5_store 44 = .ok (.iload_n 1, 1) := by decide +kernel
theorem dX5_store_45 : decode cX5_store 45 = .ok (.iaload, 1) := by decide +kernel
theorem dX5_store_46 : decode cX5_store 46 = .ok (.iastore, 1) := by decide +kernel
theorem dX5_store_47 : decode cX5_store 47 = .ok (.iconst 0, 1) := by decide +kernel
theorem dX5_store_48 : decode cX5_store 48 = .ok (.istore_n 3, 1) := by decide +kernel
theorem dX5_store_49 : decode cX5_store 49 = .ok (.iload_n 3, 1) := by decide +kernel
theorem dX5_store_50 : decode cX5_store 50 = .ok (.bipush 7, 2) := by decide +kernel
theorem dX5_store_52 : decode cX5_store 52 = .ok (.if_icmp .ge 34, 3) := by decide +kernel
theorem dX5_store_55 : decode cX5_store 55 = .ok (.aload_n 0, 1) := by decide +kernel
theorem dX5_store_56 : decode cX5_store 56 = .ok (.getfield 7, 3) := by decide +kernel
theorem dX5_store_59 : decode cX5_store 59 = .ok (.bipush 16, 2) := by decide +kernel
theorem dX5_store_61 : decode cX5_store 61 = .ok (.iload_n 2, 1) := by decide +kernel
theorem dX5_store_62 : decode cX5_store 62 = .ok (.imul, 1) := by decide +kernel
theorem dX5_store_63 : decode cX5_store 63 = .ok (.bipush 9, 2) := by decide +kernel
theorem dX5_store_65 : decode cX5_store 65 = .ok (.iadd, 1) := by decide +kernel
theorem dX5_store_66 : decode cX5_store 66 = .ok (.iload_n 3, 1) := by decide +kernel
theorem dX5_store_67 : decode cX5_store 67 = .ok (.iadd, 1) := by decide +kernel
theorem dX5_store_68 : decode cX5_store 68 = .ok (.aload_n 0, 1) := by decide +kernel
theorem dX5_store_69 : decode cX5_store 69 = .ok (.getfield 39, 3) := by decide +kernel
theorem dX5_store_72 : decode cX5_store 72 = .ok (.bipush 7, 2) := by decide +kernel
theorem dX5_store_74 : decode cX5_store 74 = .ok (.iload_n 1, 1) := by decide +kernel
theorem dX5_store_75 : decode cX5_store 75 = .ok (.imul, 1) := by decide +kernel
theorem dX5_store_76 : decode cX5_store 76 = .ok (.iload_n 3, 1) := by decide +kernel
theorem dX5_store_77 : decode cX5_store 77 = .ok (.iadd, 1) := by decide +kernel
theorem dX5_store_78 : decode cX5_store 78 = .ok (.iaload, 1) := by decide +kernel
theorem dX5_store_79 : decode cX5_store 79 = .ok (.iastore, 1) := by decide +kernel
theorem dX5_store_80 : decode cX5_store 80 = .ok (.iinc 3 1, 3) := by decide +kernel
theorem dX5_store_83 : decode cX5_store 83 = .ok (.goto (-34), 3) := by decide +kernel
theorem dX5_store_86 : decode cX5_store 86 = .ok (.iload_n 2, 1) := by decide +kernel
theorem dX5_store_87 : decode cX5_store 87 = .ok (.ireturn, 1) := by decide +kernel
set_option maxRecDepth 20000 in
theorem ggX5_close_X5_noControl : GoodIn wsX5_close wsX5_noControl := goodIn_r _ [6, 7, 32, 33, 34, 35, 36, 37, 38, 39, 40, 41, 42, 43, 44, 45, 46] (by decide +kernel) (by decide +kernel)
set_option maxRecDepth 20000 in
theorem gX5_close_X5_noControl : GoodIn wsX5_close (wsV RX5 69 RX5 yX5_noControl wsX5_noControl) := goodIn_app (goodIn_of _ (by decide +kernel)) ggX5_close_X5_noControl
set_option maxRecDepth 20000 in
theorem ggX5_close_X5_store : GoodIn wsX5_close wsX5_store := goodIn_r _ [11, 12, 13, 14, 15, 16, 17, 18, 5, 19, 20, 21, 22, 23, 24, 25, 26, 27, 28, 29, 30, 31, 32, 33, 34, 35, 36, 37, 38, 39, 40, 41, 42, 43, 44, 45, 46] (by decide +kernel) (by decide +kernel)
set_option maxRecDepth 20000 in
theorem gX5_close_X5_store : GoodIn wsX5_close (wsV RX5 93 RX5 yX5_store wsX5_store) := goodIn_app (goodIn_of _ (by decide +kernel)) ggX5_close_X5_store
theorem dX5_close_0 : decode cX5_close 0 = .ok (.aload_n 0, 1) := by decide +kernel
theorem dX5_close_1 : decode cX5_close 1 = .ok (.iload_n 1, 1) := by decide +kernel
theorem dX5_close_2 : decode cX5_close 2 = .ok (.invokevirtual 69, 3) := by decide +kernel
theorem dX5_close_5 : decode cX5_close 5 = .ok (.ifCond .eq 5, 3) := by decide +kernel
theorem dX5_close_8 : decode cX5_close 8 = .ok (.iconst 0, 1) := by decide +kernel
theorem dX5_close_9 : decode cX5_close 9 = .ok (.ireturn, 1) := by decide +kernel
theorem dX5_close_10 : decode cX5_close 10 = .ok (.aload_n 0, 1) := by decide +kernel
theorem dX5_close_11 : decode cX5_close 11 = .ok (.getfield 24, 3) := by decide +kernel
theorem dX5_close_14 : decode cX5_close 14 = .ok (.iload_n 1, 1) := by decide +kernel
theorem dX5_close_15 : decode cX5_close 15 = .ok (.baload, 1) := by decide +kernel
theorem dX5_close_16 : decode cX5_close 16 = .ok (.ifCond .ne 5, 3) := by decide +kernel
theorem dX5_close_19 : decode cX5_close 19 = .ok (.iconst (-1), 1) := by decide +kernel
theorem dX5_close_20 : decode cX5_close 20 = .ok (.ireturn, 1) := by decide +kernel
theorem dX5_close_21 : decode cX5_close 21 = .ok (.aload_n 0, 1) := by decide +kernel
theorem dX5_close_22 : decode cX5_close 22 = .ok (.getfield 24, 3) := by decide +kernel
theorem dX5_close_25 : decode cX5_close 25 = .ok (.iload_n 1, 1) := by decide +kernel
theorem dX5_close_26 : decode cX5_close 26 = .ok (.iconst 0, 1) := by decide +kernel
theorem dX5_close_27 : decode cX5_close 27 = .ok (.bastore, 1) := by decide +kernel
theorem dX5_close_28 : decode cX5_close 28 = .ok (.aload_n 0, 1) := by decide +kernel
theorem dX5_close_29 : decode cX5_close 29 = .ok (.iload_n 1, 1) := by decide +kernel
theorem dX5_close_30 : decode cX5_close 30 = .ok (.invokevirtual 93, 3) := by decide +kernel
theorem dX5_close_33 : decode cX5_close 33 = .ok (.ireturn, 1) := by decide +kernel
set_option maxRecDepth 20000 in
theorem ggX5_many_X5_fits : GoodIn wsX5_many wsX5_fits := goodIn_r _ [6, 1, 7, 8, 9, 10, 11, 12, 13, 14, 15, 16, 17, 18, 19, 20, 21, 22, 23] (by decide +kernel) (by decide +kernel)
set_option maxRecDepth 20000 in
theorem gX5_many_X5_fits : GoodIn wsX5_many (wsV RX5 54 RX5 yX5_fits wsX5_fits) := goodIn_app (goodIn_of _ (by decide +kernel)) ggX5_many_X5_fits
theorem dX5_many_0 : decode cX5_many 0 = .ok (.iconst 0, 1) := by decide +kernel
theorem dX5_many_1 : decode cX5_many 1 = .ok (.istore_n 3, 1) := by decide +kernel
theorem dX5_many_2 : decode cX5_many 2 = .ok (.iconst 0, 1) := by decide +kernel
theorem dX5_many_3 : decode cX5_many 3 = .ok (.istore 4, 2) := by decide +kernel
theorem dX5_many_5 : decode cX5_many 5 = .ok (.iconst 0, 1) := by decide +kernel
theorem dX5_many_6 : decode cX5_many 6 = .ok (.istore 5, 2) := by decide +kernel
theorem dX5_many_8 : decode cX5_many 8 = .ok (.iload 5, 2) := by decide +kernel
theorem dX5_many_10 : decode cX5_many 10 = .ok (.bipush 32, 2) := by decide +kernel
theorem dX5_many_12 : decode cX5_many 12 = .ok (.if_icmp .ge 51, 3) := by decide +kernel
theorem dX5_many_15 : decode cX5_many 15 = .ok (.aload_n 0, 1) := by decide +kernel
theorem dX5_many_16 : decode cX5_many 16 = .ok (.iload_n 1, 1) := by decide +kernel
theorem dX5_many_17 : decode cX5_many 17 = .ok (.iload 5, 2) := by decide +kernel
theorem dX5_many_19 : decode cX5_many 19 = .ok (.invokevirtual 54, 3) := by decide +kernel
theorem dX5_many_22 : decode cX5_many 22 = .ok (.ifCond .eq 35, 3) := by decide +kernel
theorem dX5_many_25 : decode cX5_many 25 = .ok (.iinc 3 1, 3) := by decide +kernel
theorem dX5_many_28 : decode cX5_many 28 = .ok (.iload 4, 2) := by decide +kernel
theorem dX5_many_30 : decode cX5_many 30 = .ok (.ifCond .ne 20, 3) := by decide +kernel
theorem dX5_many_33 : decode cX5_many 33 = .ok (.aload_n 0, 1) := by decide +kernel
theorem dX5_many_34 : decode cX5_many 34 = .ok (.getfield 7, 3) := by decide +kernel
theorem dX5_many_37 : decode cX5_many 37 = .ok (.bipush 16, 2) := by decide +kernel
theorem dX5_many_39 : decode cX5_many 39 = .ok (.iload 5, 2) := by decide +kernel
theorem dX5_many_41 : decode cX5_many 41 = .ok (.imul, 1) := by decide +kernel
theorem dX5_many_42 : decode cX5_many 42 = .ok (.iconst 5, 1) := by decide +kernel
theorem dX5_many_43 : decode cX5_many 43 = .ok (.iadd, 1) := by decide +kernel
theorem dX5_many_44 : decode cX5_many 44 = .ok (.iaload, 1) := by decide +kernel
theorem dX5_many_45 : decode cX5_many 45 = .ok (.bipush 127, 2) := by decide +kernel
theorem dX5_many_47 : decode cX5_many 47 = .ok (.if_icmp .le 7, 3) := by decide +kernel
theorem dX5_many_50 : decode cX5_many 50 = .ok (.iconst 1, 1) := by decide +kernel
theorem dX5_many_51 : decode cX5_many 51 = .ok (.goto 4, 3) := by decide +kernel
theorem dX5_many_54 : decode cX5_many 54 = .ok (.iconst 0, 1) := by decide +kernel
theorem dX5_many_55 : decode cX5_many 55 = .ok (.istore 4, 2) := by decide +kernel
theorem dX5_many_57 : decode cX5_many 57 = .ok (.iinc 5 1, 3) := by decide +kernel
theorem dX5_many_60 : decode cX5_many 60 = .ok (.goto (-52), 3) := by decide +kernel
theorem dX5_many_63 : decode cX5_many 63 = .ok (.iload_n 3, 1) := by decide +kernel
theorem dX5_many_64 : decode cX5_many 64 = .ok (.ifCond .ne 7, 3) := by decide +kernel
theorem dX5_many_67 : decode cX5_many 67 = .ok (.iconst (-1), 1) := by decide +kernel
theorem dX5_many_68 : decode cX5_many 68 = .ok (.goto 18, 3) := by decide +kernel
theorem dX5_many_71 : decode cX5_many 71 = .ok (.iload_n 2, 1) := by decide +kernel
theorem dX5_many_72 : decode cX5_many 72 = .ok (.ifCond .eq 13, 3) := by decide +kernel
theorem dX5_many_75 : decode cX5_many 75 = .ok (.iload 4, 2) := by decide +kernel
theorem dX5_many_77 : decode cX5_many 77 = .ok (.ifCond .eq 8, 3) := by decide +kernel
theorem dX5_many_80 : decode cX5_many 80 = .ok (.bipush (-3), 2) := by decide +kernel
theorem dX5_many_82 : decode cX5_many 82 = .ok (.goto 4, 3) := by decide +kernel
theorem dX5_many_85 : decode cX5_many 85 = .ok (.iload_n 3, 1) := by decide +kernel
theorem dX5_many_86 : decode cX5_many 86 = .ok (.ireturn, 1) := by decide +kernel
set_option maxRecDepth 20000 in
theorem ggX5_erase_X5_noControl : GoodIn wsX5_erase wsX5_noControl := goodIn_r _ [7, 8, 25, 26, 27, 28, 29, 30, 31, 32, 33, 34, 35, 36, 37, 38, 39] (by decide +kernel) (by decide +kernel)
set_option maxRecDepth 20000 in
theorem gX5_erase_X5_noControl : GoodIn wsX5_erase (wsV RX5 69 RX5 yX5_noControl wsX5_noControl) := goodIn_app (goodIn_of _ (by decide +kernel)) ggX5_erase_X5_noControl
set_option maxRecDepth 20000 in
theorem ggX5_erase_X5_many : GoodIn wsX5_erase wsX5_many := goodIn_r _ [12, 1, 13, 14, 15, 6, 16, 17, 18, 25, 26, 27, 28, 29, 30, 31, 32, 33, 34, 35, 36, 37, 38, 39] (by decide +kernel) (by decide +kernel)
set_option maxRecDepth 20000 in
theorem gX5_erase_X5_many : GoodIn wsX5_erase (wsV RX5 97 RX5 yX5_many wsX5_many) := goodIn_app (goodIn_of _ (by decide +kernel)) ggX5_erase_X5_many
set_option maxRecDepth 20000 in
theorem ggX5_erase_X5_fits : GoodIn wsX5_erase wsX5_fits := goodIn_r _ [16, 1, 17, 18, 25, 26, 27, 28, 29, 30, 31, 32, 33, 34, 35, 36, 37, 38, 39] (by decide +kernel) (by decide +kernel)
set_option maxRecDepth 20000 in
theorem gX5_erase_X5_fits : GoodIn wsX5_erase (wsV RX5 54 RX5 yX5_fits wsX5_fits) := goodIn_app (goodIn_of _ (by decide +kernel)) ggX5_erase_X5_fits
set_option maxRecDepth 20000 in
theorem ggX5_erase_X5_canWrite : GoodIn wsX5_erase wsX5_canWrite := goodIn_r _ [22, 23, 24, 25, 26, 27, 28, 29, 30, 31, 32, 33, 34, 35, 36, 37, 38, 39] (by decide +kernel) (by decide +kernel)
set_option maxRecDepth 20000 in
theorem gX5_erase_X5_canWrite : GoodIn wsX5_erase (wsV RX5 85 RX5 yX5_canWrite wsX5_canWrite) := goodIn_app (goodIn_of _ (by decide +kernel)) ggX5_erase_X5_canWrite
theorem dX5_erase_0 : decode cX5_erase 0 = .ok (.aload_n 0, 1) := by decide +kernel
theorem dX5_erase_1 : decode cX5_erase 1 = .ok (.iload_n 1, 1) := by decide +kernel
theorem dX5_erase_2 : decode cX5_erase 2 = .ok (.invokevirtual 69, 3) := by decide +kernel
theorem dX5_erase_5 : decode cX5_erase 5 = .ok (.ifCond .eq 5, 3) := by decide +kernel
theorem dX5_erase_8 : decode cX5_erase 8 = .ok (.iconst 0, 1) := by decide +kernel
theorem dX5_erase_9 : decode cX5_erase 9 = .ok (.ireturn, 1) := by decide +kernel
theorem dX5_erase_10 : decode cX5_erase 10 = .ok (.aload_n 0, 1) := by decide +kernel
theorem dX5_erase_11 : decode cX5_erase 11 = .ok (.iload_n 1, 1) := by decide +kernel
theorem dX5_erase_12 : decode cX5_erase 12 = .ok (.iconst 1, 1) := by decide +kernel
theorem dX5_erase_13 : decode cX5_erase 13 = .ok (.invokevirtual 97, 3) := by decide +kernel
theorem dX5_erase_16 : decode cX5_erase 16 = .ok (.istore_n 2, 1) := by decide +kernel
theorem dX5_erase_17 : decode cX5_erase 17 = .ok (.iconst 0, 1) := by decide +kernel
theorem dX5_erase_18 : decode cX5_erase 18 = .ok (.istore_n 3, 1) := by decide +kernel
theorem dX5_erase_19 : decode cX5_erase 19 = .ok (.iload_n 3, 1) := by decide +kernel
theorem dX5_erase_20 : decode cX5_erase 20 = .ok (.bipush 32, 2) := by decide +kernel
theorem dX5_erase_22 : decode cX5_erase 22 = .ok (.if_icmp .ge 107, 3) := by decide +kernel
theorem dX5_erase_25 : decode cX5_erase 25 = .ok (.iload_n 2, 1) := by decide +kernel
theorem dX5_erase_26 : decode cX5_erase 26 = .ok (.ifCond .le 103, 3) := by decide +kernel
theorem dX5_erase_29 : decode cX5_erase 29 = .ok (.aload_n 0, 1) := by decide +kernel
theorem dX5_erase_30 : decode cX5_erase 30 = .ok (.iload_n 1, 1) := by decide +kernel
theorem dX5_erase_31 : decode cX5_erase 31 = .ok (.iload_n 3, 1) := by decide +kernel
theorem dX5_erase_32 : decode cX5_erase 32 = .ok (.invokevirtual 54, 3) := by decide +kernel
theorem dX5_erase_35 : decode cX5_erase 35 = .ok (.ifCond .eq 88, 3) := by decide +kernel
theorem dX5_erase_38 : decode cX5_erase 38 = .ok (.bipush 9, 2) := by decide +kernel
theorem dX5_erase_40 : decode cX5_erase 40 = .ok (.istore 4, 2) := by decide +kernel
theorem dX5_erase_42 : decode cX5_erase 42 = .ok (.iload 4, 2) := by decide +kernel
theorem dX5_erase_44 : decode cX5_erase 44 = .ok (.bipush 16, 2) := by decide +kernel
theorem dX5_erase_46 : decode cX5_erase 46 = .ok (.if_icmp .ge 55, 3) := by decide +kernel
theorem dX5_erase_49 : decode cX5_erase 49 = .ok (.aload_n 0, 1) := by decide +kernel
theorem dX5_erase_50 : decode cX5_erase 50 = .ok (.getfield 7, 3) := by decide +kernel
theorem dX5_erase_53 : decode cX5_erase 53 = .ok (.bipush 16, 2) := by decide +kernel
theorem dX5_erase_55 : decode cX5_erase 55 = .ok (.iload_n 3, 1) := by decide +kernel
theorem dX5_erase_56 : decode cX5_erase 56 = .ok (.imul, 1) := by decide +kernel
theorem dX5_erase_57 : decode cX5_erase 57 = .ok (.iload 4, 2) := by decide +kernel
theorem dX5_erase_59 : decode cX5_erase 59 = .ok (.iadd, 1) := by decide +kernel
theorem dX5_erase_60 : decode cX5_erase 60 = .ok (.iaload, 1) := by decide +kernel
theorem dX5_erase_61 : decode cX5_erase 61 = .ok (.bipush 64, 2) := by decide +kernel
theorem dX5_erase_63 : decode cX5_erase 63 = .ok (.irem, 1) := by decide +kernel
theorem dX5_erase_64 : decode cX5_erase 64 = .ok (.istore 5, 2) := by decide +kernel
theorem dX5_erase_66 : decode cX5_erase 66 = .ok (.aload_n 0, 1) := by decide +kernel
theorem dX5_erase_67 : decode cX5_erase 67 = .ok (.getfield 13, 3) := by decide +kernel
theorem dX5_erase_70 : decode cX5_erase 70 = .ok (.iload 5, 2) := by decide +kernel
theorem dX5_erase_72 : decode cX5_erase 72 = .ok (.aload_n 0, 1) := by decide +kernel
theorem dX5_erase_73 : decode cX5_erase 73 = .ok (.getfield 13, 3) := by decide +kernel
theorem dX5_erase_76 : decode cX5_erase 76 = .ok (.iload 5, 2) := by decide +kernel
theorem dX5_erase_78 : decode cX5_erase 78 = .ok (.baload, 1) := by decide +kernel
theorem dX5_erase_79 : decode cX5_erase 79 = .ok (.ifCond .eq 14, 3) := by decide +kernel
theorem dX5_erase_82 : decode cX5_erase 82 = .ok (.iload 5, 2) := by decide +kernel
theorem dX5_erase_84 : decode cX5_erase 84 = .ok (.bipush 8, 2) := by decide +kernel
theorem dX5_erase_86 : decode cX5_erase 86 = .ok (.if_icmp .ge 7, 3) := by decide +kernel
theorem dX5_erase_89 : decode cX5_erase 89 = .ok (.iconst 1, 1) := by decide +kernel
theorem dX5_erase_90 : decode cX5_erase 90 = .ok (.goto 4, 3) := by decide +kernel
theorem dX5_erase_93 : decode cX5_erase 93 = .ok (.iconst 0, 1) := by decide +kernel
theorem dX5_erase_94 : decode cX5_erase 94 = .ok (.bastore, 1) := by decide +kernel
theorem dX5_erase_95 : decode cX5_erase 95 = .ok (.iinc 4 1, 3) := by decide +kernel
theorem dX5_erase_98 : decode cX5_erase 98 = .ok (.goto (-56), 3) := by decide +kernel
theorem dX5_erase_101 : decode cX5_erase 101 = .ok (.aload_n 0, 1) := by decide +kernel
theorem dX5_erase_102 : decode cX5_erase 102 = .ok (.invokevirtual 85, 3) := by decide +kernel
theorem dX5_erase_105 : decode cX5_erase 105 = .ok (.ifCond .ne 6, 3) := by decide +kernel
theorem dX5_erase_108 : decode cX5_erase 108 = .ok (.bipush (-9), 2) := by decide +kernel
theorem dX5_erase_110 : decode cX5_erase 110 = .ok (.ireturn, 1) := by decide +kernel
theorem dX5_erase_111 : decode cX5_erase 111 = .ok (.aload_n 0, 1) := by decide +kernel
theorem dX5_erase_112 : decode cX5_erase 112 = .ok (.getfield 7, 3) := by decide +kernel
theorem dX5_erase_115 : decode cX5_erase 115 = .ok (.bipush 16, 2) := by decide +kernel
theorem dX5_erase_117 : decode cX5_erase 117 = .ok (.iload_n 3, 1) := by decide +kernel
theorem dX5_erase_118 : decode cX5_erase 118 = .ok (.imul, 1) := by decide +kernel
theorem dX5_erase_119 : decode cX5_erase 119 = .ok (.sipush 229, 3) := by decide +kernel
theorem dX5_erase_122 : decode cX5_erase 122 = .ok (.iastore, 1) := by decide +kernel
theorem dX5_erase_123 : decode cX5_erase 123 = .ok (.iinc 3 1, 3) := by decide +kernel
theorem dX5_erase_126 : decode cX5_erase 126 = .ok (.goto (-107), 3) := by decide +kernel
theorem dX5_erase_129 : decode cX5_erase 129 = .ok (.iload_n 2, 1) := by decide +kernel
theorem dX5_erase_130 : decode cX5_erase 130 = .ok (.ireturn, 1) := by decide +kernel
set_option maxRecDepth 20000 in
theorem ggX5_rename_X5_many : GoodIn wsX5_rename wsX5_many := goodIn_r _ [9, 3, 10, 11, 12, 8, 13, 14, 4, 21, 22, 23, 24, 25, 26, 27, 28, 29, 30, 31, 32, 33, 34, 35] (by decide +kernel) (by decide +kernel)
set_option maxRecDepth 20000 in
theorem gX5_rename_X5_many : GoodIn wsX5_rename (wsV RX5 97 RX5 yX5_many wsX5_many) := goodIn_app (goodIn_of _ (by decide +kernel)) ggX5_rename_X5_many
set_option maxRecDepth 20000 in
theorem ggX5_rename_X5_fits : GoodIn wsX5_rename wsX5_fits := goodIn_r _ [13, 3, 14, 4, 21, 22, 23, 24, 25, 26, 27, 28, 29, 30, 31, 32, 33, 34, 35] (by decide +kernel) (by decide +kernel)
set_option maxRecDepth 20000 in
theorem gX5_rename_X5_fits : GoodIn wsX5_rename (wsV RX5 54 RX5 yX5_fits wsX5_fits) := goodIn_app (goodIn_of _ (by decide +kernel)) ggX5_rename_X5_fits
set_option maxRecDepth 20000 in
theorem ggX5_rename_X5_canWrite : GoodIn wsX5_rename wsX5_canWrite := goodIn_r _ [18, 19, 20, 21, 22, 23, 24, 25, 26, 27, 28, 29, 30, 31, 32, 33, 34, 35] (by decide +kernel) (by decide +kernel)
set_option maxRecDepth 20000 in
theorem gX5_rename_X5_canWrite : GoodIn wsX5_rename (wsV RX5 85 RX5 yX5_canWrite wsX5_canWrite) := goodIn_app (goodIn_of _ (by decide +kernel)) ggX5_rename_X5_canWrite
theorem dX5_rename_0 : decode cX5_rename 0 = .ok (.aload_n 0, 1) := by decide +kernel
theorem dX5_rename_1 : decode cX5_rename 1 = .ok (.iload_n 1, 1) := by decide +kernel
theorem dX5_rename_2 : decode cX5_rename 2 = .ok (.ifCond .lt 17, 3) := by decide +kernel
theorem dX5_rename_5 : decode cX5_rename 5 = .ok (.iload_n 1, 1) := by decide +kernel
theorem dX5_rename_6 : decode cX5_rename 6 = .ok (.iconst 3, 1) := by decide +kernel
theorem dX5_rename_7 : decode cX5_rename 7 = .ok (.if_icmp .gt 12, 3) := by decide +kernel
theorem dX5_rename_10 : decode cX5_rename 10 = .ok (.iload_n 2, 1) := by decide +kernel
theorem dX5_rename_11 : decode cX5_rename 11 = .ok (.ifCond .lt 8, 3) := by decide +kernel
theorem dX5_rename_14 : decode cX5_rename 14 = .ok (.iload_n 2, 1) := by decide +kernel
theorem dX5_rename_15 : decode cX5_rename 15 = .ok (.iconst 3, 1) := by decide +kernel
theorem dX5_rename_16 : decode cX5_rename 16 = .ok (.if_icmp .le 7, 3) := by decide +kernel
theorem dX5_rename_19 : decode cX5_rename 19 = .ok (.iconst 1, 1) := by decide +kernel
theorem dX5_rename_20 : decode cX5_rename 20 = .ok (.goto 4, 3) := by decide +kernel
theorem dX5_rename_23 : decode cX5_rename 23 = .ok (.iconst 0, 1) := by decide +kernel
theorem dX5_rename_24 : decode cX5_rename 24 = .ok (.putfield 48, 3) := by decide +kernel
theorem dX5_rename_27 : decode cX5_rename 27 = .ok (.aload_n 0, 1) := by decide +kernel
theorem dX5_rename_28 : decode cX5_rename 28 = .ok (.getfield 48, 3) := by decide +kernel
theorem dX5_rename_31 : decode cX5_rename 31 = .ok (.ifCond .le 5, 3) := by decide +kernel
theorem dX5_rename_34 : decode cX5_rename 34 = .ok (.iconst 0, 1) := by decide +kernel
theorem dX5_rename_35 : decode cX5_rename 35 = .ok (.ireturn, 1) := by decide +kernel
theorem dX5_rename_36 : decode cX5_rename 36 = .ok (.aload_n 0, 1) := by decide +kernel
theorem dX5_rename_37 : decode cX5_rename 37 = .ok (.iload_n 1, 1) := by decide +kernel
theorem dX5_rename_38 : decode cX5_rename 38 = .ok (.iconst 1, 1) := by decide +kernel
theorem dX5_rename_39 : decode cX5_rename 39 = .ok (.invokevirtual 97, 3) := by decide +kernel
theorem dX5_rename_42 : decode cX5_rename 42 = .ok (.istore_n 3, 1) := by decide +kernel
theorem dX5_rename_43 : decode cX5_rename 43 = .ok (.iconst 0, 1) := by decide +kernel
theorem dX5_rename_44 : decode cX5_rename 44 = .ok (.istore 4, 2) := by decide +kernel
theorem dX5_rename_46 : decode cX5_rename 46 = .ok (.iload 4, 2) := by decide +kernel
theorem dX5_rename_48 : decode cX5_rename 48 = .ok (.bipush 32, 2) := by decide +kernel
theorem dX5_rename_50 : decode cX5_rename 50 = .ok (.if_icmp .ge 23, 3) := by decide +kernel
theorem dX5_rename_53 : decode cX5_rename 53 = .ok (.aload_n 0, 1) := by decide +kernel
theorem dX5_rename_54 : decode cX5_rename 54 = .ok (.getfield 45, 3) := by decide +kernel
theorem dX5_rename_57 : decode cX5_rename 57 = .ok (.iload 4, 2) := by decide +kernel
theorem dX5_rename_59 : decode cX5_rename 59 = .ok (.aload_n 0, 1) := by decide +kernel
theorem dX5_rename_60 : decode cX5_rename 60 = .ok (.iload_n 1, 1) := by decide +kernel
theorem dX5_rename_61 : decode cX5_rename 61 = .ok (.iload 4, 2) := by decide +kernel
theorem dX5_rename_63 : decode cX5_rename 63 = .ok (.invokevirtual 54, 3) := by decide +kernel
theorem dX5_rename_66 : decode cX5_rename 66 = .ok (.bastore, 1) := by decide +kernel
theorem dX5_rename_67 : decode cX5_rename 67 = .ok (.iinc 4 1, 3) := by decide +kernel
theorem dX5_rename_70 : decode cX5_rename 70 = .ok (.goto (-24), 3) := by decide +kernel
theorem dX5_rename_73 : decode cX5_rename 73 = .ok (.iconst 0, 1) := by decide +kernel
theorem dX5_rename_74 : decode cX5_rename 74 = .ok (.istore 4, 2) := by decide +kernel
theorem dX5_rename_76 : decode cX5_rename 76 = .ok (.iload 4, 2) := by decide +kernel
theorem dX5_rename_78 : decode cX5_rename 78 = .ok (.bipush 32, 2) := by decide +kernel
theorem dX5_rename_80 : decode cX5_rename 80 = .ok (.if_icmp .ge 107, 3) := by decide +kernel
theorem dX5_rename_83 : decode cX5_rename 83 = .ok (.iload_n 3, 1) := by decide +kernel
theorem dX5_rename_84 : decode cX5_rename 84 = .ok (.ifCond .le 103, 3) := by decide +kernel
theorem dX5_rename_87 : decode cX5_rename 87 = .ok (.aload_n 0, 1) := by decide +kernel
theorem dX5_rename_88 : decode cX5_rename 88 = .ok (.getfield 45, 3) := by decide +kernel
theorem dX5_rename_91 : decode cX5_rename 91 = .ok (.iload 4, 2) := by decide +kernel
theorem dX5_rename_93 : decode cX5_rename 93 = .ok (.baload, 1) := by decide +kernel
theorem dX5_rename_94 : decode cX5_rename 94 = .ok (.ifCond .eq 87, 3) := by decide +kernel
theorem dX5_rename_97 : decode cX5_rename 97 = .ok (.aload_n 0, 1) := by decide +kernel
theorem dX5_rename_98 : decode cX5_rename 98 = .ok (.invokevirtual 85, 3) := by decide +kernel
theorem dX5_rename_101 : decode cX5_rename 101 = .ok (.ifCond .ne 6, 3) := by decide +kernel
theorem dX5_rename_104 : decode cX5_rename 104 = .ok (.bipush (-9), 2) := by decide +kernel
theorem dX5_rename_106 : decode cX5_rename 106 = .ok (.ireturn, 1) := by decide +kernel
theorem dX5_rename_107 : decode cX5_rename 107 = .ok (.iconst 0, 1) := by decide +kernel
theorem dX5_rename_108 : decode cX5_rename 108 = .ok (.istore 5, 2) := by decide +kernel
theorem dX5_rename_110 : decode cX5_rename 110 = .ok (.iload 5, 2) := by decide +kernel
theorem dX5_rename_112 : decode cX5_rename 112 = .ok (.bipush 6, 2) := by decide +kernel
theorem dX5_rename_114 : decode cX5_rename 114 = .ok (.if_icmp .ge 67, 3) := by decide +kernel
theorem dX5_rename_117 : decode cX5_rename 117 = .ok (.iload 5, 2) := by decide +kernel
theorem dX5_rename_119 : decode cX5_rename 119 = .ok (.iconst 4, 1) := by decide +kernel
theorem dX5_rename_120 : decode cX5_rename 120 = .ok (.if_icmp .ne 22, 3) := by decide +kernel
theorem dX5_rename_123 : decode cX5_rename 123 = .ok (.aload_n 0, 1) := by decide +kernel
theorem dX5_rename_124 : decode cX5_rename 124 = .ok (.getfield 7, 3) := by decide +kernel
theorem dX5_rename_127 : decode cX5_rename 127 = .ok (.bipush 16, 2) := by decide +kernel
theorem dX5_rename_129 : decode cX5_rename 129 = .ok (.iload 4, 2) := by decide +kernel
theorem dX5_rename_131 : decode cX5_rename 131 = .ok (.imul, 1) := by decide +kernel
theorem dX5_rename_132 : decode cX5_rename 132 = .ok (.iconst 5, 1) := by decide +kernel
theorem dX5_rename_133 : decode cX5_rename 133 = .ok (.iadd, 1) := by decide +kernel
theorem dX5_rename_134 : decode cX5_rename 134 = .ok (.iaload, 1) := by decide +kernel
theorem dX5_rename_135 : decode cX5_rename 135 = .ok (.sipush 128, 3) := by decide +kernel
theorem dX5_rename_138 : decode cX5_rename 138 = .ok (.iand, 1) := by decide +kernel
theorem dX5_rename_139 : decode cX5_rename 139 = .ok (.goto 4, 3) := by decide +kernel
theorem dX5_rename_142 : decode cX5_rename 142 = .ok (.iconst 0, 1) := by decide +kernel
theorem dX5_rename_143 : decode cX5_rename 143 = .ok (.istore 6, 2) := by decide +kernel
theorem dX5_rename_145 : decode cX5_rename 145 = .ok (.aload_n 0, 1) := by decide +kernel
theorem dX5_rename_146 : decode cX5_rename 146 = .ok (.getfield 7, 3) := by decide +kernel
theorem dX5_rename_149 : decode cX5_rename 149 = .ok (.bipush 16, 2) := by decide +kernel
theorem dX5_rename_151 : decode cX5_rename 151 = .ok (.iload 4, 2) := by decide +kernel
theorem dX5_rename_153 : decode cX5_rename 153 = .ok (.imul, 1) := by decide +kernel
theorem dX5_rename_154 : decode cX5_rename 154 = .ok (.iconst 1, 1) := by decide +kernel
theorem dX5_rename_155 : decode cX5_rename 155 = .ok (.iadd, 1) := by decide +kernel
theorem dX5_rename_156 : decode cX5_rename 156 = .ok (.iload 5, 2) := by decide +kernel
theorem dX5_rename_158 : decode cX5_rename 158 = .ok (.iadd, 1) := by decide +kernel
theorem dX5_rename_159 : decode cX5_rename 159 = .ok (.aload_n 0, 1) := by decide +kernel
theorem dX5_rename_160 : decode cX5_rename 160 = .ok (.getfield 21, 3) := by decide +kernel
theorem dX5_rename_163 : decode cX5_rename 163 = .ok (.bipush 6, 2) := by decide +kernel
theorem dX5_rename_165 : decode cX5_rename 165 = .ok (.iload_n 2, 1) := by decide +kernel
theorem dX5_rename_166 : decode cX5_rename 166 = .ok (.imul, 1) := by decide +kernel
theorem dX5_rename_167 : decode cX5_rename 167 = .ok (.iload 5, 2) := by decide +kernel
theorem dX5_rename_169 : decode cX5_rename 169 = .ok (.iadd, 1) := by decide +kernel
theorem dX5_rename_170 : decode cX5_rename 170 = .ok (.iaload, 1) := by decide +kernel
theorem dX5_rename_171 : decode cX5_rename 171 = .ok (.iload 6, 2) := by decide +kernel
theorem dX5_rename_173 : decode cX5_rename 173 = .ok (.ior, 1) := by decide +kernel
theorem dX5_rename_174 : decode cX5_rename 174 = .ok (.iastore, 1) := by decide +kernel
theorem dX5_rename_175 : decode cX5_rename 175 = .ok (.iinc 5 1, 3) := by decide +kernel
theorem dX5_rename_178 : decode cX5_rename 178 = .ok (.goto (-68), 3) := by decide +kernel
theorem dX5_rename_181 : decode cX5_rename 181 = .ok (.iinc 4 1, 3) := by decide +kernel
theorem dX5_rename_184 : decode cX5_rename 184 = .ok (.goto (-108), 3) := by decide +kernel
theorem dX5_rename_187 : decode cX5_rename 187 = .ok (.iload_n 3, 1) := by decide +kernel
theorem dX5_rename_188 : decode cX5_rename 188 = .ok (.ireturn, 1) := by decide +kernel
set_option maxRecDepth 20000 in
theorem ggX5_guard_X5_noControl : GoodIn wsX5_guard wsX5_noControl := goodIn_r _ [6, 7, 24, 25, 26, 27, 28, 29, 30, 31, 32, 33, 34, 35, 36, 37, 38] (by decide +kernel) (by decide +kernel)
set_option maxRecDepth 20000 in
theorem gX5_guard_X5_noControl : GoodIn wsX5_guard (wsV RX5 69 RX5 yX5_noControl wsX5_noControl) := goodIn_app (goodIn_of _ (by decide +kernel)) ggX5_guard_X5_noControl
set_option maxRecDepth 20000 in
theorem ggX5_guard_X5_many : GoodIn wsX5_guard wsX5_many := goodIn_r _ [11, 1, 12, 13, 14, 5, 15, 16, 17, 24, 25, 26, 27, 28, 29, 30, 31, 32, 33, 34, 35, 36, 37, 38] (by decide +kernel) (by decide +kernel)
set_option maxRecDepth 20000 in
theorem gX5_guard_X5_many : GoodIn wsX5_guard (wsV RX5 97 RX5 yX5_many wsX5_many) := goodIn_app (goodIn_of _ (by decide +kernel)) ggX5_guard_X5_many
set_option maxRecDepth 20000 in
theorem ggX5_guard_X5_fits : GoodIn wsX5_guard wsX5_fits := goodIn_r _ [15, 1, 16, 17, 24, 25, 26, 27, 28, 29, 30, 31, 32, 33, 34, 35, 36, 37, 38] (by decide +kernel) (by decide +kernel)
set_option maxRecDepth 20000 in
theorem gX5_guard_X5_fits : GoodIn wsX5_guard (wsV RX5 54 RX5 yX5_fits wsX5_fits) := goodIn_app (goodIn_of _ (by decide +kernel)) ggX5_guard_X5_fits
set_option maxRecDepth 20000 in
theorem ggX5_guard_X5_canWrite : GoodIn wsX5_guard wsX5_canWrite := goodIn_r _ [21, 22, 23, 24, 25, 26, 27, 28, 29, 30, 31, 32, 33, 34, 35, 36, 37, 38] (by decide +kernel) (by decide +kernel)
set_option maxRecDepth 20000 in
theorem gX5_guard_X5_canWrite : GoodIn wsX5_guard (wsV RX5 85 RX5 yX5_canWrite wsX5_canWrite) := goodIn_app (goodIn_of _ (by decide +kernel)) ggX5_guard_X5_canWrite
theorem dX5_guard_0 : decode cX5_guard 0 = .ok (.aload_n 0, 1) := by decide +kernel
theorem dX5_guard_1 : decode cX5_guard 1 = .ok (.iload_n 1, 1) := by decide +kernel
theorem dX5_guard_2 : decode cX5_guard 2 = .ok (.invokevirtual 69, 3) := by decide +kernel
theorem dX5_guard_5 : decode cX5_guard 5 = .ok (.ifCond .eq 5, 3) := by decide +kernel
theorem dX5_guard_8 : decode cX5_guard 8 = .ok (.iconst 0, 1) := by decide +kernel
theorem dX5_guard_9 : decode cX5_guard 9 = .ok (.ireturn, 1) := by decide +kernel
theorem dX5_guard_10 : decode cX5_guard 10 = .ok (.aload_n 0, 1) := by decide +kernel
theorem dX5_guard_11 : decode cX5_guard 11 = .ok (.iload_n 1, 1) := by decide +kernel
theorem dX5_guard_12 : decode cX5_guard 12 = .ok (.iconst 0, 1) := by decide +kernel
theorem dX5_guard_13 : decode cX5_guard 13 = .ok (.invokevirtual 97, 3) := by decide +kernel
theorem dX5_guard_16 : decode cX5_guard 16 = .ok (.istore_n 3, 1) := by decide +kernel
theorem dX5_guard_17 : decode cX5_guard 17 = .ok (.iconst 0, 1) := by decide +kernel
theorem dX5_guard_18 : decode cX5_guard 18 = .ok (.istore 4, 2) := by decide +kernel
theorem dX5_guard_20 : decode cX5_guard 20 = .ok (.iload 4, 2) := by decide +kernel
theorem dX5_guard_22 : decode cX5_guard 22 = .ok (.bipush 32, 2) := by decide +kernel
theorem dX5_guard_24 : decode cX5_guard 24 = .ok (.if_icmp .ge 68, 3) := by decide +kernel
theorem dX5_guard_27 : decode cX5_guard 27 = .ok (.aload_n 0, 1) := by decide +kernel
theorem dX5_guard_28 : decode cX5_guard 28 = .ok (.iload_n 1, 1) := by decide +kernel
theorem dX5_guard_29 : decode cX5_guard 29 = .ok (.iload 4, 2) := by decide +kernel
theorem dX5_guard_31 : decode cX5_guard 31 = .ok (.invokevirtual 54, 3) := by decide +kernel
theorem dX5_guard_34 : decode cX5_guard 34 = .ok (.ifCond .eq 52, 3) := by decide +kernel
theorem dX5_guard_37 : decode cX5_guard 37 = .ok (.aload_n 0, 1) := by decide +kernel
theorem dX5_guard_38 : decode cX5_guard 38 = .ok (.invokevirtual 85, 3) := by decide +kernel
theorem dX5_guard_41 : decode cX5_guard 41 = .ok (.ifCond .ne 6, 3) := by decide +kernel
theorem dX5_guard_44 : decode cX5_guard 44 = .ok (.bipush (-9), 2) := by decide +kernel
theorem dX5_guard_46 : decode cX5_guard 46 = .ok (.ireturn, 1) := by decide +kernel
theorem dX5_guard_47 : decode cX5_guard 47 = .ok (.aload_n 0, 1) := by decide +kernel
theorem dX5_guard_48 : decode cX5_guard 48 = .ok (.getfield 7, 3) := by decide +kernel
theorem dX5_guard_51 : decode cX5_guard 51 = .ok (.bipush 16, 2) := by decide +kernel
theorem dX5_guard_53 : decode cX5_guard 53 = .ok (.iload 4, 2) := by decide +kernel
theorem dX5_guard_55 : decode cX5_guard 55 = .ok (.imul, 1) := by decide +kernel
theorem dX5_guard_56 : decode cX5_guard 56 = .ok (.iconst 5, 1) := by decide +kernel
theorem dX5_guard_57 : decode cX5_guard 57 = .ok (.iadd, 1) := by decide +kernel
theorem dX5_guard_58 : decode cX5_guard 58 = .ok (.aload_n 0, 1) := by decide +kernel
theorem dX5_guard_59 : decode cX5_guard 59 = .ok (.getfield 7, 3) := by decide +kernel
theorem dX5_guard_62 : decode cX5_guard 62 = .ok (.bipush 16, 2) := by decide +kernel
theorem dX5_guard_64 : decode cX5_guard 64 = .ok (.iload 4, 2) := by decide +kernel
theorem dX5_guard_66 : decode cX5_guard 66 = .ok (.imul, 1) := by decide +kernel
theorem dX5_guard_67 : decode cX5_guard 67 = .ok (.iconst 5, 1) := by decide +kernel
theorem dX5_guard_68 : decode cX5_guard 68 = .ok (.iadd, 1) := by decide +kernel
theorem dX5_guard_69 : decode cX5_guard 69 = .ok (.iaload, 1) := by decide +kernel
theorem dX5_guard_70 : decode cX5_guard 70 = .ok (.bipush 127, 2) := by decide +kernel
theorem dX5_guard_72 : decode cX5_guard 72 = .ok (.iand, 1) := by decide +kernel
theorem dX5_guard_73 : decode cX5_guard 73 = .ok (.iload_n 2, 1) := by decide +kernel
theorem dX5_guard_74 : decode cX5_guard 74 = .ok (.ifCond .eq 9, 3) := by decide +kernel
theorem dX5_guard_77 : decode cX5_guard 77 = .ok (.sipush 128, 3) := by decide +kernel
theorem dX5_guard_80 : decode cX5_guard 80 = .ok (.goto 4, 3) := by decide +kernel
theorem dX5_guard_83 : decode cX5_guard 83 = .ok (.iconst 0, 1) := by decide +kernel
theorem dX5_guard_84 : decode cX5_guard 84 = .ok (.ior, 1) := by decide +kernel
theorem dX5_guard_85 : decode cX5_guard 85 = .ok (.iastore, 1) := by decide +kernel
theorem dX5_guard_86 : decode cX5_guard 86 = .ok (.iinc 4 1, 3) := by decide +kernel
theorem dX5_guard_89 : decode cX5_guard 89 = .ok (.goto (-69), 3) := by decide +kernel
theorem dX5_guard_92 : decode cX5_guard 92 = .ok (.iload_n 3, 1) := by decide +kernel
theorem dX5_guard_93 : decode cX5_guard 93 = .ok (.ireturn, 1) := by decide +kernel
set_option maxRecDepth 20000 in
theorem ggX5_search_X5_first : GoodIn wsX5_search wsX5_first := goodIn_r _ [6, 7, 8, 9, 10, 5, 11, 12, 13, 14, 15, 16, 17, 18, 19, 20, 21, 22, 23, 24, 25, 26, 27, 28] (by decide +kernel) (by decide +kernel)
set_option maxRecDepth 20000 in
theorem gX5_search_X5_first : GoodIn wsX5_search (wsV RX5 74 RX5 yX5_first wsX5_first) := goodIn_app (goodIn_of _ (by decide +kernel)) ggX5_search_X5_first
theorem dX5_search_0 : decode cX5_search 0 = .ok (.aload_n 0, 1) := by decide +kernel
theorem dX5_search_1 : decode cX5_search 1 = .ok (.iload_n 1, 1) := by decide +kernel
theorem dX5_search_2 : decode cX5_search 2 = .ok (.ifCond .lt 8, 3) := by decide +kernel
theorem dX5_search_5 : decode cX5_search 5 = .ok (.iload_n 1, 1) := by decide +kernel
theorem dX5_search_6 : decode cX5_search 6 = .ok (.iconst 3, 1) := by decide +kernel
theorem dX5_search_7 : decode cX5_search 7 = .ok (.if_icmp .le 7, 3) := by decide +kernel
theorem dX5_search_10 : decode cX5_search 10 = .ok (.iconst 1, 1) := by decide +kernel
theorem dX5_search_11 : decode cX5_search 11 = .ok (.goto 18, 3) := by decide +kernel
theorem dX5_search_14 : decode cX5_search 14 = .ok (.iload_n 2, 1) := by decide +kernel
theorem dX5_search_15 : decode cX5_search 15 = .ok (.ifCond .lt 9, 3) := by decide +kernel
theorem dX5_search_18 : decode cX5_search 18 = .ok (.iload_n 2, 1) := by decide +kernel
theorem dX5_search_19 : decode cX5_search 19 = .ok (.bipush 31, 2) := by decide +kernel
theorem dX5_search_21 : decode cX5_search 21 = .ok (.if_icmp .le 7, 3) := by decide +kernel
theorem dX5_search_24 : decode cX5_search 24 = .ok (.iconst 2, 1) := by decide +kernel
theorem dX5_search_25 : decode cX5_search 25 = .ok (.goto 4, 3) := by decide +kernel
theorem dX5_search_28 : decode cX5_search 28 = .ok (.iconst 0, 1) := by decide +kernel
theorem dX5_search_29 : decode cX5_search 29 = .ok (.putfield 48, 3) := by decide +kernel
theorem dX5_search_32 : decode cX5_search 32 = .ok (.aload_n 0, 1) := by decide +kernel
theorem dX5_search_33 : decode cX5_search 33 = .ok (.getfield 48, 3) := by decide +kernel
theorem dX5_search_36 : decode cX5_search 36 = .ok (.ifCond .le 7, 3) := by decide +kernel
theorem dX5_search_39 : decode cX5_search 39 = .ok (.iconst 0, 1) := by decide +kernel
theorem dX5_search_40 : decode cX5_search 40 = .ok (.goto 10, 3) := by decide +kernel
theorem dX5_search_43 : decode cX5_search 43 = .ok (.aload_n 0, 1) := by decide +kernel
theorem dX5_search_44 : decode cX5_search 44 = .ok (.iload_n 1, 1) := by decide +kernel
theorem dX5_search_45 : decode cX5_search 45 = .ok (.iload_n 2, 1) := by decide +kernel
theorem dX5_search_46 : decode cX5_search 46 = .ok (.iconst (-1), 1) := by decide +kernel
theorem dX5_search_47 : decode cX5_search 47 = .ok (.invokevirtual 74, 3) := by decide +kernel
theorem dX5_search_50 : decode cX5_search 50 = .ok (.ireturn, 1) := by decide +kernel
set_option maxRecDepth 20000 in
theorem ggX5_goTo_X5_store : GoodIn wsX5_goTo wsX5_store := goodIn_r _ [7, 1, 8, 9, 10, 11, 12, 13, 6, 14, 15, 16, 17, 18, 19, 20, 21, 22, 23, 24, 25, 26, 44, 45, 46, 47, 48, 49, 50, 51, 52, 53, 54, 55, 56, 57, 58] (by decide +kernel) (by decide +kernel)
set_option maxRecDepth 20000 in
theorem gX5_goTo_X5_store : GoodIn wsX5_goTo (wsV RX5 93 RX5 yX5_store wsX5_store) := goodIn_app (goodIn_of _ (by decide +kernel)) ggX5_goTo_X5_store
set_option maxRecDepth 20000 in
theorem ggX5_goTo_X5_first : GoodIn wsX5_goTo wsX5_first := goodIn_r _ [14, 8, 15, 16, 17, 6, 18, 19, 20, 44, 45, 46, 47, 48, 49, 50, 51, 52, 53, 54, 55, 56, 57, 58] (by decide +kernel) (by decide +kernel)
set_option maxRecDepth 20000 in
theorem gX5_goTo_X5_first : GoodIn wsX5_goTo (wsV RX5 74 RX5 yX5_first wsX5_first) := goodIn_app (goodIn_of _ (by decide +kernel)) ggX5_goTo_X5_first
set_option maxRecDepth 20000 in
theorem ggX5_goTo_X5_take : GoodIn wsX5_goTo wsX5_take := goodIn_r _ [30, 1, 8, 9, 10, 44, 45, 46, 47, 48, 49, 50, 51, 52, 53, 54, 55, 56, 57, 58] (by decide +kernel) (by decide +kernel)
set_option maxRecDepth 20000 in
theorem gX5_goTo_X5_take : GoodIn wsX5_goTo (wsV RX5 78 RX5 yX5_take wsX5_take) := goodIn_app (goodIn_of _ (by decide +kernel)) ggX5_goTo_X5_take
set_option maxRecDepth 20000 in
theorem ggX5_goTo_X5_makeOne : GoodIn wsX5_goTo wsX5_makeOne := goodIn_r _ [34, 1, 9, 10, 35, 8, 19, 20, 36, 37, 38, 6, 39, 40, 41, 42, 43, 21, 22, 23, 24, 25, 26, 44, 45, 46, 47, 48, 49, 50, 51, 52, 53, 54, 55, 56, 57, 58] (by decide +kernel) (by decide +kernel)
set_option maxRecDepth 20000 in
theorem gX5_goTo_X5_makeOne : GoodIn wsX5_goTo (wsV RX5 89 RX5 yX5_makeOne wsX5_makeOne) := goodIn_app (goodIn_of _ (by decide +kernel)) ggX5_goTo_X5_makeOne
theorem dX5_goTo_0 : decode cX5_goTo 0 = .ok (.iload_n 2, 1) := by decide +kernel
theorem dX5_goTo_1 : decode cX5_goTo 1 = .ok (.aload_n 0, 1) := by decide +kernel
theorem dX5_goTo_2 : decode cX5_goTo 2 = .ok (.getfield 27, 3) := by decide +kernel
theorem dX5_goTo_5 : decode cX5_goTo 5 = .ok (.iload_n 1, 1) := by decide +kernel
theorem dX5_goTo_6 : decode cX5_goTo 6 = .ok (.iaload, 1) := by decide +kernel
theorem dX5_goTo_7 : decode cX5_goTo 7 = .ok (.if_icmp .ne 5, 3) := by decide +kernel
theorem dX5_goTo_10 : decode cX5_goTo 10 = .ok (.iconst 0, 1) := by decide +kernel
theorem dX5_goTo_11 : decode cX5_goTo 11 = .ok (.ireturn, 1) := by decide +kernel
theorem dX5_goTo_12 : decode cX5_goTo 12 = .ok (.iload_n 2, 1) := by decide +kernel
theorem dX5_goTo_13 : decode cX5_goTo 13 = .ok (.bipush 15, 2) := by decide +kernel
theorem dX5_goTo_15 : decode cX5_goTo 15 = .ok (.if_icmp .le 6, 3) := by decide +kernel
theorem dX5_goTo_18 : decode cX5_goTo 18 = .ok (.bipush (-2), 2) := by decide +kernel
theorem dX5_goTo_20 : decode cX5_goTo 20 = .ok (.ireturn, 1) := by decide +kernel
theorem dX5_goTo_21 : decode cX5_goTo 21 = .ok (.aload_n 0, 1) := by decide +kernel
theorem dX5_goTo_22 : decode cX5_goTo 22 = .ok (.iload_n 1, 1) := by decide +kernel
theorem dX5_goTo_23 : decode cX5_goTo 23 = .ok (.invokevirtual 93, 3) := by decide +kernel
theorem dX5_goTo_26 : decode cX5_goTo 26 = .ok (.istore 4, 2) := by decide +kernel
theorem dX5_goTo_28 : decode cX5_goTo 28 = .ok (.iload 4, 2) := by decide +kernel
theorem dX5_goTo_30 : decode cX5_goTo 30 = .ok (.ifCond .ge 6, 3) := by decide +kernel
theorem dX5_goTo_33 : decode cX5_goTo 33 = .ok (.iload 4, 2) := by decide +kernel
theorem dX5_goTo_35 : decode cX5_goTo 35 = .ok (.ireturn, 1) := by decide +kernel
theorem dX5_goTo_36 : decode cX5_goTo 36 = .ok (.aload_n 0, 1) := by decide +kernel
theorem dX5_goTo_37 : decode cX5_goTo 37 = .ok (.iload_n 1, 1) := by decide +kernel
theorem dX5_goTo_38 : decode cX5_goTo 38 = .ok (.iconst 0, 1) := by decide +kernel
theorem dX5_goTo_39 : decode cX5_goTo 39 = .ok (.iload_n 2, 1) := by decide +kernel
theorem dX5_goTo_40 : decode cX5_goTo 40 = .ok (.invokevirtual 74, 3) := by decide +kernel
theorem dX5_goTo_43 : decode cX5_goTo 43 = .ok (.istore 4, 2) := by decide +kernel
theorem dX5_goTo_45 : decode cX5_goTo 45 = .ok (.iload 4, 2) := by decide +kernel
theorem dX5_goTo_47 : decode cX5_goTo 47 = .ok (.ifCond .lt 19, 3) := by decide +kernel
theorem dX5_goTo_50 : decode cX5_goTo 50 = .ok (.aload_n 0, 1) := by decide +kernel
theorem dX5_goTo_51 : decode cX5_goTo 51 = .ok (.iload_n 1, 1) := by decide +kernel
theorem dX5_goTo_52 : decode cX5_goTo 52 = .ok (.iload 4, 2) := by decide +kernel
theorem dX5_goTo_54 : decode cX5_goTo 54 = .ok (.invokevirtual 78, 3) := by decide +kernel
theorem dX5_goTo_57 : decode cX5_goTo 57 = .ok (.aload_n 0, 1) := by decide +kernel
theorem dX5_goTo_58 : decode cX5_goTo 58 = .ok (.getfield 33, 3) := by decide +kernel
theorem dX5_goTo_61 : decode cX5_goTo 61 = .ok (.iload_n 1, 1) := by decide +kernel
theorem dX5_goTo_62 : decode cX5_goTo 62 = .ok (.iconst 0, 1) := by decide +kernel
theorem dX5_goTo_63 : decode cX5_goTo 63 = .ok (.iastore, 1) := by decide +kernel
theorem dX5_goTo_64 : decode cX5_goTo 64 = .ok (.iconst 0, 1) := by decide +kernel
theorem dX5_goTo_65 : decode cX5_goTo 65 = .ok (.ireturn, 1) := by decide +kernel
theorem dX5_goTo_66 : decode cX5_goTo 66 = .ok (.iload_n 3, 1) := by decide +kernel
theorem dX5_goTo_67 : decode cX5_goTo 67 = .ok (.ifCond .ne 5, 3) := by decide +kernel
theorem dX5_goTo_70 : decode cX5_goTo 70 = .ok (.iconst (-1), 1) := by decide +kernel
theorem dX5_goTo_71 : decode cX5_goTo 71 = .ok (.ireturn, 1) := by decide +kernel
theorem dX5_goTo_72 : decode cX5_goTo 72 = .ok (.aload_n 0, 1) := by decide +kernel
theorem dX5_goTo_73 : decode cX5_goTo 73 = .ok (.iload_n 1, 1) := by decide +kernel
theorem dX5_goTo_74 : decode cX5_goTo 74 = .ok (.iload_n 2, 1) := by decide +kernel
theorem dX5_goTo_75 : decode cX5_goTo 75 = .ok (.invokevirtual 89, 3) := by decide +kernel
theorem dX5_goTo_78 : decode cX5_goTo 78 = .ok (.istore 4, 2) := by decide +kernel
theorem dX5_goTo_80 : decode cX5_goTo 80 = .ok (.aload_n 0, 1) := by decide +kernel
theorem dX5_goTo_81 : decode cX5_goTo 81 = .ok (.getfield 33, 3) := by decide +kernel
theorem dX5_goTo_84 : decode cX5_goTo 84 = .ok (.iload_n 1, 1) := by decide +kernel
theorem dX5_goTo_85 : decode cX5_goTo 85 = .ok (.iload 4, 2) := by decide +kernel
theorem dX5_goTo_87 : decode cX5_goTo 87 = .ok (.bipush (-2), 2) := by decide +kernel
theorem dX5_goTo_89 : decode cX5_goTo 89 = .ok (.if_icmp .ne 12, 3) := by decide +kernel
theorem dX5_goTo_92 : decode cX5_goTo 92 = .ok (.aload_n 0, 1) := by decide +kernel
theorem dX5_goTo_93 : decode cX5_goTo 93 = .ok (.getfield 33, 3) := by decide +kernel
theorem dX5_goTo_96 : decode cX5_goTo 96 = .ok (.iload_n 1, 1) := by decide +kernel
theorem dX5_goTo_97 : decode cX5_goTo 97 = .ok (.iaload, 1) := by decide +kernel
theorem dX5_goTo_98 : decode cX5_goTo 98 = .ok (.goto 4, 3) := by decide +kernel
theorem dX5_goTo_101 : decode cX5_goTo 101 = .ok (.iconst 0, 1) := by decide +kernel
theorem dX5_goTo_102 : decode cX5_goTo 102 = .ok (.iastore, 1) := by decide +kernel
theorem dX5_goTo_103 : decode cX5_goTo 103 = .ok (.iload 4, 2) := by decide +kernel
theorem dX5_goTo_105 : decode cX5_goTo 105 = .ok (.ifCond .ge 8, 3) := by decide +kernel
theorem dX5_goTo_108 : decode cX5_goTo 108 = .ok (.iload 4, 2) := by decide +kernel
theorem dX5_goTo_110 : decode cX5_goTo 110 = .ok (.goto 4, 3) := by decide +kernel
theorem dX5_goTo_113 : decode cX5_goTo 113 = .ok (.iconst 0, 1) := by decide +kernel
theorem dX5_goTo_114 : decode cX5_goTo 114 = .ok (.ireturn, 1) := by decide +kernel
set_option maxRecDepth 20000 in
theorem ggX5_put_X5_canWrite : GoodIn wsX5_put wsX5_canWrite := goodIn_r _ [11, 12, 13, 14, 15, 16, 17, 18, 19, 20, 21, 22, 23, 24, 25, 26, 27, 28] (by decide +kernel) (by decide +kernel)
set_option maxRecDepth 20000 in
theorem gX5_put_X5_canWrite : GoodIn wsX5_put (wsV RX5 85 RX5 yX5_canWrite wsX5_canWrite) := goodIn_app (goodIn_of _ (by decide +kernel)) ggX5_put_X5_canWrite
theorem dX5_put_0 : decode cX5_put 0 = .ok (.aload_n 0, 1) := by decide +kernel
theorem dX5_put_1 : decode cX5_put 1 = .ok (.getfield 36, 3) := by decide +kernel
theorem dX5_put_4 : decode cX5_put 4 = .ok (.iload_n 1, 1) := by decide +kernel
theorem dX5_put_5 : decode cX5_put 5 = .ok (.baload, 1) := by decide +kernel
theorem dX5_put_6 : decode cX5_put 6 = .ok (.ifCond .eq 6, 3) := by decide +kernel
theorem dX5_put_9 : decode cX5_put 9 = .ok (.bipush (-3), 2) := by decide +kernel
theorem dX5_put_11 : decode cX5_put 11 = .ok (.ireturn, 1) := by decide +kernel
theorem dX5_put_12 : decode cX5_put 12 = .ok (.bipush 7, 2) := by decide +kernel
theorem dX5_put_14 : decode cX5_put 14 = .ok (.iload_n 1, 1) := by decide +kernel
theorem dX5_put_15 : decode cX5_put 15 = .ok (.imul, 1) := by decide +kernel
theorem dX5_put_16 : decode cX5_put 16 = .ok (.iload_n 2, 1) := by decide +kernel
theorem dX5_put_17 : decode cX5_put 17 = .ok (.iconst 4, 1) := by decide +kernel
theorem dX5_put_18 : decode cX5_put 18 = .ok (.idiv, 1) := by decide +kernel
theorem dX5_put_19 : decode cX5_put 19 = .ok (.iadd, 1) := by decide +kernel
theorem dX5_put_20 : decode cX5_put 20 = .ok (.istore_n 3, 1) := by decide +kernel
theorem dX5_put_21 : decode cX5_put 21 = .ok (.aload_n 0, 1) := by decide +kernel
theorem dX5_put_22 : decode cX5_put 22 = .ok (.getfield 39, 3) := by decide +kernel
theorem dX5_put_25 : decode cX5_put 25 = .ok (.iload_n 3, 1) := by decide +kernel
theorem dX5_put_26 : decode cX5_put 26 = .ok (.iaload, 1) := by decide +kernel
theorem dX5_put_27 : decode cX5_put 27 = .ok (.ifCond .ne 55, 3) := by decide +kernel
theorem dX5_put_30 : decode cX5_put 30 = .ok (.iconst 0, 1) := by decide +kernel
theorem dX5_put_31 : decode cX5_put 31 = .ok (.istore 4, 2) := by decide +kernel
theorem dX5_put_33 : decode cX5_put 33 = .ok (.iload 4, 2) := by decide +kernel
theorem dX5_put_35 : decode cX5_put 35 = .ok (.bipush 64, 2) := by decide +kernel
theorem dX5_put_37 : decode cX5_put 37 = .ok (.if_icmp .ge 19, 3) := by decide +kernel
theorem dX5_put_40 : decode cX5_put 40 = .ok (.aload_n 0, 1) := by decide +kernel
theorem dX5_put_41 : decode cX5_put 41 = .ok (.getfield 13, 3) := by decide +kernel
theorem dX5_put_44 : decode cX5_put 44 = .ok (.iload 4, 2) := by decide +kernel
theorem dX5_put_46 : decode cX5_put 46 = .ok (.baload, 1) := by decide +kernel
theorem dX5_put_47 : decode cX5_put 47 = .ok (.ifCond .eq 9, 3) := by decide +kernel
theorem dX5_put_50 : decode cX5_put 50 = .ok (.iinc 4 1, 3) := by decide +kernel
theorem dX5_put_53 : decode cX5_put 53 = .ok (.goto (-20), 3) := by decide +kernel
theorem dX5_put_56 : decode cX5_put 56 = .ok (.iload 4, 2) := by decide +kernel
theorem dX5_put_58 : decode cX5_put 58 = .ok (.bipush 64, 2) := by decide +kernel
theorem dX5_put_60 : decode cX5_put 60 = .ok (.if_icmp .ne 6, 3) := by decide +kernel
theorem dX5_put_63 : decode cX5_put 63 = .ok (.bipush (-4), 2) := by decide +kernel
theorem dX5_put_65 : decode cX5_put 65 = .ok (.ireturn, 1) := by decide +kernel
theorem dX5_put_66 : decode cX5_put 66 = .ok (.aload_n 0, 1) := by decide +kernel
theorem dX5_put_67 : decode cX5_put 67 = .ok (.getfield 13, 3) := by decide +kernel
theorem dX5_put_70 : decode cX5_put 70 = .ok (.iload 4, 2) := by decide +kernel
theorem dX5_put_72 : decode cX5_put 72 = .ok (.iconst 1, 1) := by decide +kernel
theorem dX5_put_73 : decode cX5_put 73 = .ok (.bastore, 1) := by decide +kernel
theorem dX5_put_74 : decode cX5_put 74 = .ok (.aload_n 0, 1) := by decide +kernel
theorem dX5_put_75 : decode cX5_put 75 = .ok (.getfield 39, 3) := by decide +kernel
theorem dX5_put_78 : decode cX5_put 78 = .ok (.iload_n 3, 1) := by decide +kernel
theorem dX5_put_79 : decode cX5_put 79 = .ok (.iload 4, 2) := by decide +kernel
theorem dX5_put_81 : decode cX5_put 81 = .ok (.iastore, 1) := by decide +kernel
theorem dX5_put_82 : decode cX5_put 82 = .ok (.aload_n 0, 1) := by decide +kernel
theorem dX5_put_83 : decode cX5_put 83 = .ok (.invokevirtual 85, 3) := by decide +kernel
theorem dX5_put_86 : decode cX5_put 86 = .ok (.ifCond .ne 6, 3) := by decide +kernel
theorem dX5_put_89 : decode cX5_put 89 = .ok (.bipush (-9), 2) := by decide +kernel
theorem dX5_put_91 : decode cX5_put 91 = .ok (.ireturn, 1) := by decide +kernel
theorem dX5_put_92 : decode cX5_put 92 = .ok (.bipush 64, 2) := by decide +kernel
theorem dX5_put_94 : decode cX5_put 94 = .ok (.aload_n 0, 1) := by decide +kernel
theorem dX5_put_95 : decode cX5_put 95 = .ok (.getfield 39, 3) := by decide +kernel
theorem dX5_put_98 : decode cX5_put 98 = .ok (.iload_n 3, 1) := by decide +kernel
theorem dX5_put_99 : decode cX5_put 99 = .ok (.iaload, 1) := by decide +kernel
theorem dX5_put_100 : decode cX5_put 100 = .ok (.bipush 64, 2) := by decide +kernel
theorem dX5_put_102 : decode cX5_put 102 = .ok (.irem, 1) := by decide +kernel
theorem dX5_put_103 : decode cX5_put 103 = .ok (.imul, 1) := by decide +kernel
theorem dX5_put_104 : decode cX5_put 104 = .ok (.bipush 16, 2) := by decide +kernel
theorem dX5_put_106 : decode cX5_put 106 = .ok (.iload_n 2, 1) := by decide +kernel
theorem dX5_put_107 : decode cX5_put 107 = .ok (.iconst 4, 1) := by decide +kernel
theorem dX5_put_108 : decode cX5_put 108 = .ok (.irem, 1) := by decide +kernel
theorem dX5_put_109 : decode cX5_put 109 = .ok (.imul, 1) := by decide +kernel
theorem dX5_put_110 : decode cX5_put 110 = .ok (.iadd, 1) := by decide +kernel
theorem dX5_put_111 : decode cX5_put 111 = .ok (.istore 4, 2) := by decide +kernel
theorem dX5_put_113 : decode cX5_put 113 = .ok (.iconst 0, 1) := by decide +kernel
theorem dX5_put_114 : decode cX5_put 114 = .ok (.istore 5, 2) := by decide +kernel
theorem dX5_put_116 : decode cX5_put 116 = .ok (.iload 5, 2) := by decide +kernel
theorem dX5_put_118 : decode cX5_put 118 = .ok (.bipush 16, 2) := by decide +kernel
theorem dX5_put_120 : decode cX5_put 120 = .ok (.if_icmp .ge 26, 3) := by decide +kernel
theorem dX5_put_123 : decode cX5_put 123 = .ok (.aload_n 0, 1) := by decide +kernel
theorem dX5_put_124 : decode cX5_put 124 = .ok (.getfield 7, 3) := by decide +kernel
theorem dX5_put_127 : decode cX5_put 127 = .ok (.iload 4, 2) := by decide +kernel
theorem dX5_put_129 : decode cX5_put 129 = .ok (.iload 5, 2) := by decide +kernel
theorem dX5_put_131 : decode cX5_put 131 = .ok (.iadd, 1) := by decide +kernel
theorem dX5_put_132 : decode cX5_put 132 = .ok (.aload_n 0, 1) := by decide +kernel
theorem dX5_put_133 : decode cX5_put 133 = .ok (.getfield 42, 3) := by decide +kernel
theorem dX5_put_136 : decode cX5_put 136 = .ok (.iload 5, 2) := by decide +kernel
theorem dX5_put_138 : decode cX5_put 138 = .ok (.iaload, 1) := by decide +kernel
theorem dX5_put_139 : decode cX5_put 139 = .ok (.iastore, 1) := by decide +kernel
theorem dX5_put_140 : decode cX5_put 140 = .ok (.iinc 5 1, 3) := by decide +kernel
theorem dX5_put_143 : decode cX5_put 143 = .ok (.goto (-27), 3) := by decide +kernel
theorem dX5_put_146 : decode cX5_put 146 = .ok (.aload_n 0, 1) := by decide +kernel
theorem dX5_put_147 : decode cX5_put 147 = .ok (.getfield 30, 3) := by decide +kernel
theorem dX5_put_150 : decode cX5_put 150 = .ok (.iload_n 1, 1) := by decide +kernel
theorem dX5_put_151 : decode cX5_put 151 = .ok (.aload_n 0, 1) := by decide +kernel
theorem dX5_put_152 : decode cX5_put 152 = .ok (.getfield 30, 3) := by decide +kernel
theorem dX5_put_155 : decode cX5_put 155 = .ok (.iload_n 1, 1) := by decide +kernel
theorem dX5_put_156 : decode cX5_put 156 = .ok (.iaload, 1) := by decide +kernel
theorem dX5_put_157 : decode cX5_put 157 = .ok (.iload_n 2, 1) := by decide +kernel
theorem dX5_put_158 : decode cX5_put 158 = .ok (.iconst 1, 1) := by decide +kernel
theorem dX5_put_159 : decode cX5_put 159 = .ok (.iadd, 1) := by decide +kernel
theorem dX5_put_160 : decode cX5_put 160 = .ok (.if_icmp .ge 9, 3) := by decide +kernel
theorem dX5_put_163 : decode cX5_put 163 = .ok (.iload_n 2, 1) := by decide +kernel
theorem dX5_put_164 : decode cX5_put 164 = .ok (.iconst 1, 1) := by decide +kernel
theorem dX5_put_165 : decode cX5_put 165 = .ok (.iadd, 1) := by decide +kernel
theorem dX5_put_166 : decode cX5_put 166 = .ok (.goto 9, 3) := by decide +kernel
theorem dX5_put_169 : decode cX5_put 169 = .ok (.aload_n 0, 1) := by decide +kernel
theorem dX5_put_170 : decode cX5_put 170 = .ok (.getfield 30, 3) := by decide +kernel
theorem dX5_put_173 : decode cX5_put 173 = .ok (.iload_n 1, 1) := by decide +kernel
theorem dX5_put_174 : decode cX5_put 174 = .ok (.iaload, 1) := by decide +kernel
theorem dX5_put_175 : decode cX5_put 175 = .ok (.iastore, 1) := by decide +kernel
theorem dX5_put_176 : decode cX5_put 176 = .ok (.iconst 0, 1) := by decide +kernel
theorem dX5_put_177 : decode cX5_put 177 = .ok (.ireturn, 1) := by decide +kernel
theorem dX5_get_0 : decode cX5_get 0 = .ok (.bipush 7, 2) := by decide +kernel
theorem dX5_get_2 : decode cX5_get 2 = .ok (.iload_n 1, 1) := by decide +kernel
theorem dX5_get_3 : decode cX5_get 3 = .ok (.imul, 1) := by decide +kernel
theorem dX5_get_4 : decode cX5_get 4 = .ok (.iload_n 2, 1) := by decide +kernel
theorem dX5_get_5 : decode cX5_get 5 = .ok (.iconst 4, 1) := by decide +kernel
theorem dX5_get_6 : decode cX5_get 6 = .ok (.idiv, 1) := by decide +kernel
theorem dX5_get_7 : decode cX5_get 7 = .ok (.iadd, 1) := by decide +kernel
theorem dX5_get_8 : decode cX5_get 8 = .ok (.istore_n 3, 1) := by decide +kernel
theorem dX5_get_9 : decode cX5_get 9 = .ok (.iload_n 2, 1) := by decide +kernel
theorem dX5_get_10 : decode cX5_get 10 = .ok (.aload_n 0, 1) := by decide +kernel
theorem dX5_get_11 : decode cX5_get 11 = .ok (.getfield 30, 3) := by decide +kernel
theorem dX5_get_14 : decode cX5_get 14 = .ok (.iload_n 1, 1) := by decide +kernel
theorem dX5_get_15 : decode cX5_get 15 = .ok (.iaload, 1) := by decide +kernel
theorem dX5_get_16 : decode cX5_get 16 = .ok (.if_icmp .ge 12, 3) := by decide +kernel
theorem dX5_get_19 : decode cX5_get 19 = .ok (.aload_n 0, 1) := by decide +kernel
theorem dX5_get_20 : decode cX5_get 20 = .ok (.getfield 39, 3) := by decide +kernel
theorem dX5_get_23 : decode cX5_get 23 = .ok (.iload_n 3, 1) := by decide +kernel
theorem dX5_get_24 : decode cX5_get 24 = .ok (.iaload, 1) := by decide +kernel
theorem dX5_get_25 : decode cX5_get 25 = .ok (.ifCond .ne 5, 3) := by decide +kernel
theorem dX5_get_28 : decode cX5_get 28 = .ok (.iconst (-1), 1) := by decide +kernel
theorem dX5_get_29 : decode cX5_get 29 = .ok (.ireturn, 1) := by decide +kernel
theorem dX5_get_30 : decode cX5_get 30 = .ok (.bipush 64, 2) := by decide +kernel
theorem dX5_get_32 : decode cX5_get 32 = .ok (.aload_n 0, 1) := by decide +kernel
theorem dX5_get_33 : decode cX5_get 33 = .ok (.getfield 39, 3) := by decide +kernel
theorem dX5_get_36 : decode cX5_get 36 = .ok (.iload_n 3, 1) := by decide +kernel
theorem dX5_get_37 : decode cX5_get 37 = .ok (.iaload, 1) := by decide +kernel
theorem dX5_get_38 : decode cX5_get 38 = .ok (.bipush 64, 2) := by decide +kernel
theorem dX5_get_40 : decode cX5_get 40 = .ok (.irem, 1) := by decide +kernel
theorem dX5_get_41 : decode cX5_get 41 = .ok (.imul, 1) := by decide +kernel
theorem dX5_get_42 : decode cX5_get 42 = .ok (.bipush 16, 2) := by decide +kernel
theorem dX5_get_44 : decode cX5_get 44 = .ok (.iload_n 2, 1) := by decide +kernel
theorem dX5_get_45 : decode cX5_get 45 = .ok (.iconst 4, 1) := by decide +kernel
theorem dX5_get_46 : decode cX5_get 46 = .ok (.irem, 1) := by decide +kernel
theorem dX5_get_47 : decode cX5_get 47 = .ok (.imul, 1) := by decide +kernel
theorem dX5_get_48 : decode cX5_get 48 = .ok (.iadd, 1) := by decide +kernel
theorem dX5_get_49 : decode cX5_get 49 = .ok (.istore 4, 2) := by decide +kernel
theorem dX5_get_51 : decode cX5_get 51 = .ok (.iconst 0, 1) := by decide +kernel
theorem dX5_get_52 : decode cX5_get 52 = .ok (.istore 5, 2) := by decide +kernel
theorem dX5_get_54 : decode cX5_get 54 = .ok (.iload 5, 2) := by decide +kernel
theorem dX5_get_56 : decode cX5_get 56 = .ok (.bipush 16, 2) := by decide +kernel
theorem dX5_get_58 : decode cX5_get 58 = .ok (.if_icmp .ge 26, 3) := by decide +kernel
theorem dX5_get_61 : decode cX5_get 61 = .ok (.aload_n 0, 1) := by decide +kernel
theorem dX5_get_62 : decode cX5_get 62 = .ok (.getfield 42, 3) := by decide +kernel
theorem dX5_get_65 : decode cX5_get 65 = .ok (.iload 5, 2) := by decide +kernel
theorem dX5_get_67 : decode cX5_get 67 = .ok (.aload_n 0, 1) := by decide +kernel
theorem dX5_get_68 : decode cX5_get 68 = .ok (.getfield 7, 3) := by decide +kernel
theorem dX5_get_71 : decode cX5_get 71 = .ok (.iload 4, 2) := by decide +kernel
theorem dX5_get_73 : decode cX5_get 73 = .ok (.iload 5, 2) := by decide +kernel
theorem dX5_get_75 : decode cX5_get 75 = .ok (.iadd, 1) := by decide +kernel
theorem dX5_get_76 : decode cX5_get 76 = .ok (.iaload, 1) := by decide +kernel
theorem dX5_get_77 : decode cX5_get 77 = .ok (.iastore, 1) := by decide +kernel
theorem dX5_get_78 : decode cX5_get 78 = .ok (.iinc 5 1, 3) := by decide +kernel
theorem dX5_get_81 : decode cX5_get 81 = .ok (.goto (-27), 3) := by decide +kernel
theorem dX5_get_84 : decode cX5_get 84 = .ok (.iconst 0, 1) := by decide +kernel
theorem dX5_get_85 : decode cX5_get 85 = .ok (.ireturn, 1) := by decide +kernel
set_option maxRecDepth 20000 in
theorem ggX5_next_X5_noControl : GoodIn wsX5_next wsX5_noControl := goodIn_r _ [8, 9, 64, 65, 66, 67, 68, 69, 70, 71, 72, 73, 74, 75, 76, 77, 78] (by decide +kernel) (by decide +kernel)
set_option maxRecDepth 20000 in
theorem gX5_next_X5_noControl : GoodIn wsX5_next (wsV RX5 69 RX5 yX5_noControl wsX5_noControl) := goodIn_app (goodIn_of _ (by decide +kernel)) ggX5_next_X5_noControl
set_option maxRecDepth 20000 in
theorem ggX5_next_X5_goTo : GoodIn wsX5_next wsX5_goTo := goodIn_r _ [13, 3, 2, 14, 15, 16, 7, 17, 18, 19, 20, 21, 22, 23, 24, 25, 26, 27, 28, 29, 30, 31, 32, 33, 34, 35, 36, 37, 38, 39, 40, 41, 42, 43, 44, 1, 45, 46, 47, 48, 49, 50, 51, 52, 64, 65, 66, 67, 68, 69, 70, 71, 72, 73, 74, 75, 76, 77, 78] (by decide +kernel) (by decide +kernel)
set_option maxRecDepth 20000 in
theorem gX5_next_X5_goTo : GoodIn wsX5_next (wsV RX5 101 RX5 yX5_goTo wsX5_goTo) := goodIn_app (goodIn_of _ (by decide +kernel)) ggX5_next_X5_goTo
set_option maxRecDepth 20000 in
theorem ggX5_next_X5_put : GoodIn wsX5_next wsX5_put := goodIn_r _ [56, 57, 20, 58, 18, 59, 19, 31, 32, 33, 7, 34, 35, 36, 64, 65, 66, 67, 68, 69, 70, 71, 72, 73, 74, 75, 76, 77, 78] (by decide +kernel) (by decide +kernel)
set_option maxRecDepth 20000 in
theorem gX5_next_X5_put : GoodIn wsX5_next (wsV RX5 105 RX5 yX5_put wsX5_put) := goodIn_app (goodIn_of _ (by decide +kernel)) ggX5_next_X5_put
set_option maxRecDepth 20000 in
theorem ggX5_next_X5_get : GoodIn wsX5_next wsX5_get := goodIn_r _ [63, 19, 20, 59, 18, 64, 65, 66, 67, 68, 69, 70, 71, 72, 73, 74, 75, 76, 77, 78] (by decide +kernel) (by decide +kernel)
set_option maxRecDepth 20000 in
theorem gX5_next_X5_get : GoodIn wsX5_next (wsV RX5 108 RX5 yX5_get wsX5_get) := goodIn_app (goodIn_of _ (by decide +kernel)) ggX5_next_X5_get
theorem dX5_next_0 : decode cX5_next 0 = .ok (.aload_n 0, 1) := by decide +kernel
theorem dX5_next_1 : decode cX5_next 1 = .ok (.iload_n 1, 1) := by decide +kernel
theorem dX5_next_2 : decode cX5_next 2 = .ok (.invokevirtual 69, 3) := by decide +kernel
theorem dX5_next_5 : decode cX5_next 5 = .ok (.ifCond .eq 5, 3) := by decide +kernel
theorem dX5_next_8 : decode cX5_next 8 = .ok (.iconst 0, 1) := by decide +kernel
theorem dX5_next_9 : decode cX5_next 9 = .ok (.ireturn, 1) := by decide +kernel
theorem dX5_next_10 : decode cX5_next 10 = .ok (.aload_n 0, 1) := by decide +kernel
theorem dX5_next_11 : decode cX5_next 11 = .ok (.getfield 24, 3) := by decide +kernel
theorem dX5_next_14 : decode cX5_next 14 = .ok (.iload_n 1, 1) := by decide +kernel
theorem dX5_next_15 : decode cX5_next 15 = .ok (.baload, 1) := by decide +kernel
theorem dX5_next_16 : decode cX5_next 16 = .ok (.ifCond .ne 5, 3) := by decide +kernel
theorem dX5_next_19 : decode cX5_next 19 = .ok (.iconst (-1), 1) := by decide +kernel
theorem dX5_next_20 : decode cX5_next 20 = .ok (.ireturn, 1) := by decide +kernel
theorem dX5_next_21 : decode cX5_next 21 = .ok (.aload_n 0, 1) := by decide +kernel
theorem dX5_next_22 : decode cX5_next 22 = .ok (.getfield 33, 3) := by decide +kernel
theorem dX5_next_25 : decode cX5_next 25 = .ok (.iload_n 1, 1) := by decide +kernel
theorem dX5_next_26 : decode cX5_next 26 = .ok (.iaload, 1) := by decide +kernel
theorem dX5_next_27 : decode cX5_next 27 = .ok (.bipush 28, 2) := by decide +kernel
theorem dX5_next_29 : decode cX5_next 29 = .ok (.if_icmp .ne 31, 3) := by decide +kernel
theorem dX5_next_32 : decode cX5_next 32 = .ok (.aload_n 0, 1) := by decide +kernel
theorem dX5_next_33 : decode cX5_next 33 = .ok (.iload_n 1, 1) := by decide +kernel
theorem dX5_next_34 : decode cX5_next 34 = .ok (.aload_n 0, 1) := by decide +kernel
theorem dX5_next_35 : decode cX5_next 35 = .ok (.getfield 27, 3) := by decide +kernel
theorem dX5_next_38 : decode cX5_next 38 = .ok (.iload_n 1, 1) := by decide +kernel
theorem dX5_next_39 : decode cX5_next 39 = .ok (.iaload, 1) := by decide +kernel
theorem dX5_next_40 : decode cX5_next 40 = .ok (.iconst 1, 1) := by decide +kernel
theorem dX5_next_41 : decode cX5_next 41 = .ok (.iadd, 1) := by decide +kernel
theorem dX5_next_42 : decode cX5_next 42 = .ok (.iload_n 2, 1) := by decide +kernel
theorem dX5_next_43 : decode cX5_next 43 = .ok (.invokevirtual 101, 3) := by decide +kernel
theorem dX5_next_46 : decode cX5_next 46 = .ok (.istore_n 3, 1) := by decide +kernel
theorem dX5_next_47 : decode cX5_next 47 = .ok (.iload_n 3, 1) := by decide +kernel
theorem dX5_next_48 : decode cX5_next 48 = .ok (.ifCond .ge 5, 3) := by decide +kernel
theorem dX5_next_51 : decode cX5_next 51 = .ok (.iload_n 3, 1) := by decide +kernel
theorem dX5_next_52 : decode cX5_next 52 = .ok (.ireturn, 1) := by decide +kernel
theorem dX5_next_53 : decode cX5_next 53 = .ok (.aload_n 0, 1) := by decide +kernel
theorem dX5_next_54 : decode cX5_next 54 = .ok (.getfield 33, 3) := by decide +kernel
theorem dX5_next_57 : decode cX5_next 57 = .ok (.iload_n 1, 1) := by decide +kernel
theorem dX5_next_58 : decode cX5_next 58 = .ok (.iconst 0, 1) := by decide +kernel
theorem dX5_next_59 : decode cX5_next 59 = .ok (.iastore, 1) := by decide +kernel
theorem dX5_next_60 : decode cX5_next 60 = .ok (.iload_n 2, 1) := by decide +kernel
theorem dX5_next_61 : decode cX5_next 61 = .ok (.ifCond .eq 17, 3) := by decide +kernel
theorem dX5_next_64 : decode cX5_next 64 = .ok (.aload_n 0, 1) := by decide +kernel
theorem dX5_next_65 : decode cX5_next 65 = .ok (.iload_n 1, 1) := by decide +kernel
theorem dX5_next_66 : decode cX5_next 66 = .ok (.aload_n 0, 1) := by decide +kernel
theorem dX5_next_67 : decode cX5_next 67 = .ok (.getfield 33, 3) := by decide +kernel
theorem dX5_next_70 : decode cX5_next 70 = .ok (.iload_n 1, 1) := by decide +kernel
theorem dX5_next_71 : decode cX5_next 71 = .ok (.iaload, 1) := by decide +kernel
theorem dX5_next_72 : decode cX5_next 72 = .ok (.invokevirtual 105, 3) := by decide +kernel
theorem dX5_next_75 : decode cX5_next 75 = .ok (.goto 14, 3) := by decide +kernel
theorem dX5_next_78 : decode cX5_next 78 = .ok (.aload_n 0, 1) := by decide +kernel
theorem dX5_next_79 : decode cX5_next 79 = .ok (.iload_n 1, 1) := by decide +kernel
theorem dX5_next_80 : decode cX5_next 80 = .ok (.aload_n 0, 1) := by decide +kernel
theorem dX5_next_81 : decode cX5_next 81 = .ok (.getfield 33, 3) := by decide +kernel
theorem dX5_next_84 : decode cX5_next 84 = .ok (.iload_n 1, 1) := by decide +kernel
theorem dX5_next_85 : decode cX5_next 85 = .ok (.iaload, 1) := by decide +kernel
theorem dX5_next_86 : decode cX5_next 86 = .ok (.invokevirtual 108, 3) := by decide +kernel
theorem dX5_next_89 : decode cX5_next 89 = .ok (.istore_n 3, 1) := by decide +kernel
theorem dX5_next_90 : decode cX5_next 90 = .ok (.aload_n 0, 1) := by decide +kernel
theorem dX5_next_91 : decode cX5_next 91 = .ok (.getfield 33, 3) := by decide +kernel
theorem dX5_next_94 : decode cX5_next 94 = .ok (.iload_n 1, 1) := by decide +kernel
theorem dX5_next_95 : decode cX5_next 95 = .ok (.iload_n 3, 1) := by decide +kernel
theorem dX5_next_96 : decode cX5_next 96 = .ok (.ifCond .ne 14, 3) := by decide +kernel
theorem dX5_next_99 : decode cX5_next 99 = .ok (.aload_n 0, 1) := by decide +kernel
theorem dX5_next_100 : decode cX5_next 100 = .ok (.getfield 33, 3) := by decide +kernel
theorem dX5_next_103 : decode cX5_next 103 = .ok (.iload_n 1, 1) := by decide +kernel
theorem dX5_next_104 : decode cX5_next 104 = .ok (.iaload, 1) := by decide +kernel
theorem dX5_next_105 : decode cX5_next 105 = .ok (.iconst 1, 1) := by decide +kernel
theorem dX5_next_106 : decode cX5_next 106 = .ok (.iadd, 1) := by decide +kernel
theorem dX5_next_107 : decode cX5_next 107 = .ok (.goto 9, 3) := by decide +kernel
theorem dX5_next_110 : decode cX5_next 110 = .ok (.aload_n 0, 1) := by decide +kernel
theorem dX5_next_111 : decode cX5_next 111 = .ok (.getfield 33, 3) := by decide +kernel
theorem dX5_next_114 : decode cX5_next 114 = .ok (.iload_n 1, 1) := by decide +kernel
theorem dX5_next_115 : decode cX5_next 115 = .ok (.iaload, 1) := by decide +kernel
theorem dX5_next_116 : decode cX5_next 116 = .ok (.iastore, 1) := by decide +kernel
theorem dX5_next_117 : decode cX5_next 117 = .ok (.iload_n 3, 1) := by decide +kernel
theorem dX5_next_118 : decode cX5_next 118 = .ok (.ireturn, 1) := by decide +kernel
set_option maxRecDepth 20000 in
theorem ggX5_read_X5_next : GoodIn wsX5_read wsX5_next := goodIn_r _ [5, 6, 7, 8, 9, 10, 11, 4, 12, 13, 14, 15, 16, 17, 18, 19, 20, 21, 22, 23, 24, 25, 26, 27, 28, 29, 30, 31, 32, 33, 34, 35, 36, 37, 38, 39, 40, 41, 42, 43, 44, 45, 46, 47, 48, 49, 50, 51, 52, 53, 54, 55, 56, 57, 58, 59, 60, 61, 62, 63, 64, 65, 66, 67, 68, 69, 70, 71, 72, 73, 74, 75, 76, 77, 78, 79, 80, 81, 82] (by decide +kernel) (by decide +kernel)
set_option maxRecDepth 20000 in
theorem gX5_read_X5_next : GoodIn wsX5_read (wsV RX5 111 RX5 yX5_next wsX5_next) := goodIn_app (goodIn_of _ (by decide +kernel)) ggX5_read_X5_next
theorem dX5_read_0 : decode cX5_read 0 = .ok (.aload_n 0, 1) := by decide +kernel
theorem dX5_read_1 : decode cX5_read 1 = .ok (.iload_n 1, 1) := by decide +kernel
theorem dX5_read_2 : decode cX5_read 2 = .ok (.iconst 0, 1) := by decide +kernel
theorem dX5_read_3 : decode cX5_read 3 = .ok (.invokevirtual 111, 3) := by decide +kernel
theorem dX5_read_6 : decode cX5_read 6 = .ok (.ireturn, 1) := by decide +kernel
set_option maxRecDepth 20000 in
theorem ggX5_write_X5_next : GoodIn wsX5_write wsX5_next := goodIn_r _ [5, 6, 7, 8, 9, 10, 11, 4, 12, 13, 14, 15, 16, 17, 18, 19, 20, 21, 22, 23, 24, 25, 26, 27, 28, 29, 30, 31, 32, 33, 34, 35, 36, 37, 38, 39, 40, 41, 42, 43, 44, 45, 46, 47, 48, 49, 50, 51, 52, 53, 54, 55, 56, 57, 58, 59, 60, 61, 62, 63, 64, 65, 66, 67, 68, 69, 70, 71, 72, 73, 74, 75, 76, 77, 78, 79, 80, 81, 82] (by decide +kernel) (by decide +kernel)
set_option maxRecDepth 20000 in
theorem gX5_write_X5_next : GoodIn wsX5_write (wsV RX5 111 RX5 yX5_next wsX5_next) := goodIn_app (goodIn_of _ (by decide +kernel)) ggX5_write_X5_next
theorem dX5_write_0 : decode cX5_write 0 = .ok (.aload_n 0, 1) := by decide +kernel
theorem dX5_write_1 : decode cX5_write 1 = .ok (.iload_n 1, 1) := by decide +kernel
theorem dX5_write_2 : decode cX5_write 2 = .ok (.iconst 1, 1) := by decide +kernel
theorem dX5_write_3 : decode cX5_write 3 = .ok (.invokevirtual 111, 3) := by decide +kernel
theorem dX5_write_6 : decode cX5_write 6 = .ok (.ireturn, 1) := by decide +kernel
set_option maxRecDepth 20000 in
theorem ggX5_at_X5_goTo : GoodIn wsX5_at wsX5_goTo := goodIn_r _ [9, 10, 4, 11, 12, 13, 8, 14, 15, 16, 17, 18, 19, 20, 21, 22, 23, 24, 25, 26, 27, 28, 29, 30, 31, 32, 33, 34, 35, 36, 37, 38, 39, 40, 41, 3, 42, 43, 44, 45, 46, 47, 48, 49, 61, 62, 63, 64, 65, 66, 67, 68, 69, 70, 71, 72, 73, 74, 75] (by decide +kernel) (by decide +kernel)
set_option maxRecDepth 20000 in
theorem gX5_at_X5_goTo : GoodIn wsX5_at (wsV RX5 101 RX5 yX5_goTo wsX5_goTo) := goodIn_app (goodIn_of _ (by decide +kernel)) ggX5_at_X5_goTo
set_option maxRecDepth 20000 in
theorem ggX5_at_X5_put : GoodIn wsX5_at wsX5_put := goodIn_r _ [53, 54, 17, 55, 15, 56, 16, 28, 29, 30, 8, 31, 32, 33, 61, 62, 63, 64, 65, 66, 67, 68, 69, 70, 71, 72, 73, 74, 75] (by decide +kernel) (by decide +kernel)
set_option maxRecDepth 20000 in
theorem gX5_at_X5_put : GoodIn wsX5_at (wsV RX5 105 RX5 yX5_put wsX5_put) := goodIn_app (goodIn_of _ (by decide +kernel)) ggX5_at_X5_put
set_option maxRecDepth 20000 in
theorem ggX5_at_X5_get : GoodIn wsX5_at wsX5_get := goodIn_r _ [60, 16, 17, 56, 15, 61, 62, 63, 64, 65, 66, 67, 68, 69, 70, 71, 72, 73, 74, 75] (by decide +kernel) (by decide +kernel)
set_option maxRecDepth 20000 in
theorem gX5_at_X5_get : GoodIn wsX5_at (wsV RX5 108 RX5 yX5_get wsX5_get) := goodIn_app (goodIn_of _ (by decide +kernel)) ggX5_at_X5_get
theorem dX5_at_0 : decode cX5_at 0 = .ok (.aload_n 0, 1) := by decide +kernel
theorem dX5_at_1 : decode cX5_at 1 = .ok (.iload_n 1, 1) := by decide +kernel
theorem dX5_at_2 : decode cX5_at 2 = .ok (.ifCond .lt 8, 3) := by decide +kernel
theorem dX5_at_5 : decode cX5_at 5 = .ok (.iload_n 1, 1) := by decide +kernel
theorem dX5_at_6 : decode cX5_at 6 = .ok (.iconst 3, 1) := by decide +kernel
theorem dX5_at_7 : decode cX5_at 7 = .ok (.if_icmp .le 7, 3) := by decide +kernel
theorem dX5_at_10 : decode cX5_at 10 = .ok (.iconst 1, 1) := by decide +kernel
theorem dX5_at_11 : decode cX5_at 11 = .ok (.goto 18, 3) := by decide +kernel
theorem dX5_at_14 : decode cX5_at 14 = .ok (.iload_n 2, 1) := by decide +kernel
theorem dX5_at_15 : decode cX5_at 15 = .ok (.ifCond .lt 9, 3) := by decide +kernel
theorem dX5_at_18 : decode cX5_at 18 = .ok (.iload_n 2, 1) := by decide +kernel
theorem dX5_at_19 : decode cX5_at 19 = .ok (.ldc 114, 2) := by decide +kernel
theorem dX5_at_21 : decode cX5_at 21 = .ok (.if_icmp .le 7, 3) := by decide +kernel
theorem dX5_at_24 : decode cX5_at 24 = .ok (.iconst 2, 1) := by decide +kernel
theorem dX5_at_25 : decode cX5_at 25 = .ok (.goto 4, 3) := by decide +kernel
theorem dX5_at_28 : decode cX5_at 28 = .ok (.iconst 0, 1) := by decide +kernel
theorem dX5_at_29 : decode cX5_at 29 = .ok (.putfield 48, 3) := by decide +kernel
theorem dX5_at_32 : decode cX5_at 32 = .ok (.aload_n 0, 1) := by decide +kernel
theorem dX5_at_33 : decode cX5_at 33 = .ok (.getfield 48, 3) := by decide +kernel
theorem dX5_at_36 : decode cX5_at 36 = .ok (.ifCond .le 5, 3) := by decide +kernel
theorem dX5_at_39 : decode cX5_at 39 = .ok (.iconst 0, 1) := by decide +kernel
theorem dX5_at_40 : decode cX5_at 40 = .ok (.ireturn, 1) := by decide +kernel
theorem dX5_at_41 : decode cX5_at 41 = .ok (.aload_n 0, 1) := by decide +kernel
theorem dX5_at_42 : decode cX5_at 42 = .ok (.getfield 24, 3) := by decide +kernel
theorem dX5_at_45 : decode cX5_at 45 = .ok (.iload_n 1, 1) := by decide +kernel
theorem dX5_at_46 : decode cX5_at 46 = .ok (.baload, 1) := by decide +kernel
theorem dX5_at_47 : decode cX5_at 47 = .ok (.ifCond .ne 5, 3) := by decide +kernel
theorem dX5_at_50 : decode cX5_at 50 = .ok (.iconst (-1), 1) := by decide +kernel
theorem dX5_at_51 : decode cX5_at 51 = .ok (.ireturn, 1) := by decide +kernel
theorem dX5_at_52 : decode cX5_at 52 = .ok (.aload_n 0, 1) := by decide +kernel
theorem dX5_at_53 : decode cX5_at 53 = .ok (.iload_n 1, 1) := by decide +kernel
theorem dX5_at_54 : decode cX5_at 54 = .ok (.iload_n 2, 1) := by decide +kernel
theorem dX5_at_55 : decode cX5_at 55 = .ok (.bipush 28, 2) := by decide +kernel
theorem dX5_at_57 : decode cX5_at 57 = .ok (.idiv, 1) := by decide +kernel
theorem dX5_at_58 : decode cX5_at 58 = .ok (.iload_n 3, 1) := by decide +kernel
theorem dX5_at_59 : decode cX5_at 59 = .ok (.invokevirtual 101, 3) := by decide +kernel
theorem dX5_at_62 : decode cX5_at 62 = .ok (.istore 4, 2) := by decide +kernel
theorem dX5_at_64 : decode cX5_at 64 = .ok (.iload 4, 2) := by decide +kernel
theorem dX5_at_66 : decode cX5_at 66 = .ok (.ifCond .ge 6, 3) := by decide +kernel
theorem dX5_at_69 : decode cX5_at 69 = .ok (.iload 4, 2) := by decide +kernel
theorem dX5_at_71 : decode cX5_at 71 = .ok (.ireturn, 1) := by decide +kernel
theorem dX5_at_72 : decode cX5_at 72 = .ok (.iload_n 3, 1) := by decide +kernel
theorem dX5_at_73 : decode cX5_at 73 = .ok (.ifCond .eq 15, 3) := by decide +kernel
theorem dX5_at_76 : decode cX5_at 76 = .ok (.aload_n 0, 1) := by decide +kernel
theorem dX5_at_77 : decode cX5_at 77 = .ok (.iload_n 1, 1) := by decide +kernel
theorem dX5_at_78 : decode cX5_at 78 = .ok (.iload_n 2, 1) := by decide +kernel
theorem dX5_at_79 : decode cX5_at 79 = .ok (.bipush 28, 2) := by decide +kernel
theorem dX5_at_81 : decode cX5_at 81 = .ok (.irem, 1) := by decide +kernel
theorem dX5_at_82 : decode cX5_at 82 = .ok (.invokevirtual 105, 3) := by decide +kernel
theorem dX5_at_85 : decode cX5_at 85 = .ok (.goto 12, 3) := by decide +kernel
theorem dX5_at_88 : decode cX5_at 88 = .ok (.aload_n 0, 1) := by decide +kernel
theorem dX5_at_89 : decode cX5_at 89 = .ok (.iload_n 1, 1) := by decide +kernel
theorem dX5_at_90 : decode cX5_at 90 = .ok (.iload_n 2, 1) := by decide +kernel
theorem dX5_at_91 : decode cX5_at 91 = .ok (.bipush 28, 2) := by decide +kernel
theorem dX5_at_93 : decode cX5_at 93 = .ok (.irem, 1) := by decide +kernel
theorem dX5_at_94 : decode cX5_at 94 = .ok (.invokevirtual 108, 3) := by decide +kernel
theorem dX5_at_97 : decode cX5_at 97 = .ok (.istore 4, 2) := by decide +kernel
theorem dX5_at_99 : decode cX5_at 99 = .ok (.aload_n 0, 1) := by decide +kernel
theorem dX5_at_100 : decode cX5_at 100 = .ok (.getfield 33, 3) := by decide +kernel
theorem dX5_at_103 : decode cX5_at 103 = .ok (.iload_n 1, 1) := by decide +kernel
theorem dX5_at_104 : decode cX5_at 104 = .ok (.iload 4, 2) := by decide +kernel
theorem dX5_at_106 : decode cX5_at 106 = .ok (.ifCond .ne 10, 3) := by decide +kernel
theorem dX5_at_109 : decode cX5_at 109 = .ok (.iload_n 2, 1) := by decide +kernel
theorem dX5_at_110 : decode cX5_at 110 = .ok (.bipush 28, 2) := by decide +kernel
theorem dX5_at_112 : decode cX5_at 112 = .ok (.irem, 1) := by decide +kernel
theorem dX5_at_113 : decode cX5_at 113 = .ok (.goto 9, 3) := by decide +kernel
theorem dX5_at_116 : decode cX5_at 116 = .ok (.aload_n 0, 1) := by decide +kernel
theorem dX5_at_117 : decode cX5_at 117 = .ok (.getfield 33, 3) := by decide +kernel
theorem dX5_at_120 : decode cX5_at 120 = .ok (.iload_n 1, 1) := by decide +kernel
theorem dX5_at_121 : decode cX5_at 121 = .ok (.iaload, 1) := by decide +kernel
theorem dX5_at_122 : decode cX5_at 122 = .ok (.iastore, 1) := by decide +kernel
theorem dX5_at_123 : decode cX5_at 123 = .ok (.iload 4, 2) := by decide +kernel
theorem dX5_at_125 : decode cX5_at 125 = .ok (.ireturn, 1) := by decide +kernel
set_option maxRecDepth 20000 in
theorem ggX5_size_X5_noControl : GoodIn wsX5_size wsX5_noControl := goodIn_r _ [6, 7, 14, 15, 16, 17, 18, 19, 20, 21, 22, 23, 24, 25, 26, 27, 28] (by decide +kernel) (by decide +kernel)
set_option maxRecDepth 20000 in
theorem gX5_size_X5_noControl : GoodIn wsX5_size (wsV RX5 69 RX5 yX5_noControl wsX5_noControl) := goodIn_app (goodIn_of _ (by decide +kernel)) ggX5_size_X5_noControl
set_option maxRecDepth 20000 in
theorem ggX5_size_X5_fits : GoodIn wsX5_size wsX5_fits := goodIn_r _ [11, 1, 12, 13, 14, 15, 16, 17, 18, 19, 20, 21, 22, 23, 24, 25, 26, 27, 28] (by decide +kernel) (by decide +kernel)
set_option maxRecDepth 20000 in
theorem gX5_size_X5_fits : GoodIn wsX5_size (wsV RX5 54 RX5 yX5_fits wsX5_fits) := goodIn_app (goodIn_of _ (by decide +kernel)) ggX5_size_X5_fits
theorem dX5_size_0 : decode cX5_size 0 = .ok (.aload_n 0, 1) := by decide +kernel
theorem dX5_size_1 : decode cX5_size 1 = .ok (.iload_n 1, 1) := by decide +kernel
theorem dX5_size_2 : decode cX5_size 2 = .ok (.invokevirtual 69, 3) := by decide +kernel
theorem dX5_size_5 : decode cX5_size 5 = .ok (.ifCond .eq 5, 3) := by decide +kernel
theorem dX5_size_8 : decode cX5_size 8 = .ok (.iconst 0, 1) := by decide +kernel
theorem dX5_size_9 : decode cX5_size 9 = .ok (.ireturn, 1) := by decide +kernel
theorem dX5_size_10 : decode cX5_size 10 = .ok (.iconst 0, 1) := by decide +kernel
theorem dX5_size_11 : decode cX5_size 11 = .ok (.istore_n 2, 1) := by decide +kernel
theorem dX5_size_12 : decode cX5_size 12 = .ok (.iconst 0, 1) := by decide +kernel
theorem dX5_size_13 : decode cX5_size 13 = .ok (.istore_n 3, 1) := by decide +kernel
theorem dX5_size_14 : decode cX5_size 14 = .ok (.iload_n 3, 1) := by decide +kernel
theorem dX5_size_15 : decode cX5_size 15 = .ok (.bipush 32, 2) := by decide +kernel
theorem dX5_size_17 : decode cX5_size 17 = .ok (.if_icmp .ge 61, 3) := by decide +kernel
theorem dX5_size_20 : decode cX5_size 20 = .ok (.bipush 28, 2) := by decide +kernel
theorem dX5_size_22 : decode cX5_size 22 = .ok (.aload_n 0, 1) := by decide +kernel
theorem dX5_size_23 : decode cX5_size 23 = .ok (.getfield 7, 3) := by decide +kernel
theorem dX5_size_26 : decode cX5_size 26 = .ok (.bipush 16, 2) := by decide +kernel
theorem dX5_size_28 : decode cX5_size 28 = .ok (.iload_n 3, 1) := by decide +kernel
theorem dX5_size_29 : decode cX5_size 29 = .ok (.imul, 1) := by decide +kernel
theorem dX5_size_30 : decode cX5_size 30 = .ok (.bipush 7, 2) := by decide +kernel
theorem dX5_size_32 : decode cX5_size 32 = .ok (.iadd, 1) := by decide +kernel
theorem dX5_size_33 : decode cX5_size 33 = .ok (.iaload, 1) := by decide +kernel
theorem dX5_size_34 : decode cX5_size 34 = .ok (.imul, 1) := by decide +kernel
theorem dX5_size_35 : decode cX5_size 35 = .ok (.aload_n 0, 1) := by decide +kernel
theorem dX5_size_36 : decode cX5_size 36 = .ok (.getfield 7, 3) := by decide +kernel
theorem dX5_size_39 : decode cX5_size 39 = .ok (.bipush 16, 2) := by decide +kernel
theorem dX5_size_41 : decode cX5_size 41 = .ok (.iload_n 3, 1) := by decide +kernel
theorem dX5_size_42 : decode cX5_size 42 = .ok (.imul, 1) := by decide +kernel
theorem dX5_size_43 : decode cX5_size 43 = .ok (.bipush 8, 2) := by decide +kernel
theorem dX5_size_45 : decode cX5_size 45 = .ok (.iadd, 1) := by decide +kernel
theorem dX5_size_46 : decode cX5_size 46 = .ok (.iaload, 1) := by decide +kernel
theorem dX5_size_47 : decode cX5_size 47 = .ok (.iadd, 1) := by decide +kernel
theorem dX5_size_48 : decode cX5_size 48 = .ok (.istore 4, 2) := by decide +kernel
theorem dX5_size_50 : decode cX5_size 50 = .ok (.aload_n 0, 1) := by decide +kernel
theorem dX5_size_51 : decode cX5_size 51 = .ok (.iload_n 1, 1) := by decide +kernel
theorem dX5_size_52 : decode cX5_size 52 = .ok (.iload_n 3, 1) := by decide +kernel
theorem dX5_size_53 : decode cX5_size 53 = .ok (.invokevirtual 54, 3) := by decide +kernel
theorem dX5_size_56 : decode cX5_size 56 = .ok (.ifCond .eq 14, 3) := by decide +kernel
theorem dX5_size_59 : decode cX5_size 59 = .ok (.iload 4, 2) := by decide +kernel
theorem dX5_size_61 : decode cX5_size 61 = .ok (.iload_n 2, 1) := by decide +kernel
theorem dX5_size_62 : decode cX5_size 62 = .ok (.if_icmp .le 8, 3) := by decide +kernel
theorem dX5_size_65 : decode cX5_size 65 = .ok (.iload 4, 2) := by decide +kernel
theorem dX5_size_67 : decode cX5_size 67 = .ok (.goto 4, 3) := by decide +kernel
theorem dX5_size_70 : decode cX5_size 70 = .ok (.iload_n 2, 1) := by decide +kernel
theorem dX5_size_71 : decode cX5_size 71 = .ok (.istore_n 2, 1) := by decide +kernel
theorem dX5_size_72 : decode cX5_size 72 = .ok (.iinc 3 1, 3) := by decide +kernel
theorem dX5_size_75 : decode cX5_size 75 = .ok (.goto (-61), 3) := by decide +kernel
theorem dX5_size_78 : decode cX5_size 78 = .ok (.iload_n 2, 1) := by decide +kernel
theorem dX5_size_79 : decode cX5_size 79 = .ok (.ireturn, 1) := by decide +kernel
theorem dX5_has_0 : decode cX5_has 0 = .ok (.aload_n 0, 1) := by decide +kernel
theorem dX5_has_1 : decode cX5_has 1 = .ok (.iload_n 1, 1) := by decide +kernel
theorem dX5_has_2 : decode cX5_has 2 = .ok (.ifCond .lt 8, 3) := by decide +kernel
theorem dX5_has_5 : decode cX5_has 5 = .ok (.iload_n 1, 1) := by decide +kernel
theorem dX5_has_6 : decode cX5_has 6 = .ok (.iconst 3, 1) := by decide +kernel
theorem dX5_has_7 : decode cX5_has 7 = .ok (.if_icmp .le 7, 3) := by decide +kernel
theorem dX5_has_10 : decode cX5_has 10 = .ok (.iconst 1, 1) := by decide +kernel
theorem dX5_has_11 : decode cX5_has 11 = .ok (.goto 18, 3) := by decide +kernel
theorem dX5_has_14 : decode cX5_has 14 = .ok (.iload_n 2, 1) := by decide +kernel
theorem dX5_has_15 : decode cX5_has 15 = .ok (.ifCond .lt 9, 3) := by decide +kernel
theorem dX5_has_18 : decode cX5_has 18 = .ok (.iload_n 2, 1) := by decide +kernel
theorem dX5_has_19 : decode cX5_has 19 = .ok (.bipush 10, 2) := by decide +kernel
theorem dX5_has_21 : decode cX5_has 21 = .ok (.if_icmp .le 7, 3) := by decide +kernel
theorem dX5_has_24 : decode cX5_has 24 = .ok (.iconst 2, 1) := by decide +kernel
theorem dX5_has_25 : decode cX5_has 25 = .ok (.goto 4, 3) := by decide +kernel
theorem dX5_has_28 : decode cX5_has 28 = .ok (.iconst 0, 1) := by decide +kernel
theorem dX5_has_29 : decode cX5_has 29 = .ok (.putfield 48, 3) := by decide +kernel
theorem dX5_has_32 : decode cX5_has 32 = .ok (.aload_n 0, 1) := by decide +kernel
theorem dX5_has_33 : decode cX5_has 33 = .ok (.getfield 48, 3) := by decide +kernel
theorem dX5_has_36 : decode cX5_has 36 = .ok (.ifCond .gt 12, 3) := by decide +kernel
theorem dX5_has_39 : decode cX5_has 39 = .ok (.aload_n 0, 1) := by decide +kernel
theorem dX5_has_40 : decode cX5_has 40 = .ok (.getfield 24, 3) := by decide +kernel
theorem dX5_has_43 : decode cX5_has 43 = .ok (.iload_n 1, 1) := by decide +kernel
theorem dX5_has_44 : decode cX5_has 44 = .ok (.baload, 1) := by decide +kernel
theorem dX5_has_45 : decode cX5_has 45 = .ok (.ifCond .ne 5, 3) := by decide +kernel
theorem dX5_has_48 : decode cX5_has 48 = .ok (.iconst 0, 1) := by decide +kernel
theorem dX5_has_49 : decode cX5_has 49 = .ok (.ireturn, 1) := by decide +kernel
theorem dX5_has_50 : decode cX5_has 50 = .ok (.iload_n 2, 1) := by decide +kernel
theorem dX5_has_51 : decode cX5_has 51 = .ok (.ifCond .ne 7, 3) := by decide +kernel
theorem dX5_has_54 : decode cX5_has 54 = .ok (.iconst 1, 1) := by decide +kernel
theorem dX5_has_55 : decode cX5_has 55 = .ok (.goto 58, 3) := by decide +kernel
theorem dX5_has_58 : decode cX5_has 58 = .ok (.iload_n 2, 1) := by decide +kernel
theorem dX5_has_59 : decode cX5_has 59 = .ok (.iconst 1, 1) := by decide +kernel
theorem dX5_has_60 : decode cX5_has 60 = .ok (.if_icmp .ne 12, 3) := by decide +kernel
theorem dX5_has_63 : decode cX5_has 63 = .ok (.aload_n 0, 1) := by decide +kernel
theorem dX5_has_64 : decode cX5_has 64 = .ok (.getfield 27, 3) := by decide +kernel
theorem dX5_has_67 : decode cX5_has 67 = .ok (.iload_n 1, 1) := by decide +kernel
theorem dX5_has_68 : decode cX5_has 68 = .ok (.iaload, 1) := by decide +kernel
theorem dX5_has_69 : decode cX5_has 69 = .ok (.goto 44, 3) := by decide +kernel
theorem dX5_has_72 : decode cX5_has 72 = .ok (.iload_n 2, 1) := by decide +kernel
theorem dX5_has_73 : decode cX5_has 73 = .ok (.iconst 2, 1) := by decide +kernel
theorem dX5_has_74 : decode cX5_has 74 = .ok (.if_icmp .ne 12, 3) := by decide +kernel
theorem dX5_has_77 : decode cX5_has 77 = .ok (.aload_n 0, 1) := by decide +kernel
theorem dX5_has_78 : decode cX5_has 78 = .ok (.getfield 30, 3) := by decide +kernel
theorem dX5_has_81 : decode cX5_has 81 = .ok (.iload_n 1, 1) := by decide +kernel
theorem dX5_has_82 : decode cX5_has 82 = .ok (.iaload, 1) := by decide +kernel
theorem dX5_has_83 : decode cX5_has 83 = .ok (.goto 30, 3) := by decide +kernel
theorem dX5_has_86 : decode cX5_has 86 = .ok (.iload_n 2, 1) := by decide +kernel
theorem dX5_has_87 : decode cX5_has 87 = .ok (.iconst 3, 1) := by decide +kernel
theorem dX5_has_88 : decode cX5_has 88 = .ok (.if_icmp .ne 12, 3) := by decide +kernel
theorem dX5_has_91 : decode cX5_has 91 = .ok (.aload_n 0, 1) := by decide +kernel
theorem dX5_has_92 : decode cX5_has 92 = .ok (.getfield 33, 3) := by decide +kernel
theorem dX5_has_95 : decode cX5_has 95 = .ok (.iload_n 1, 1) := by decide +kernel
theorem dX5_has_96 : decode cX5_has 96 = .ok (.iaload, 1) := by decide +kernel
theorem dX5_has_97 : decode cX5_has 97 = .ok (.goto 16, 3) := by decide +kernel
theorem dX5_has_100 : decode cX5_has 100 = .ok (.aload_n 0, 1) := by decide +kernel
theorem dX5_has_101 : decode cX5_has 101 = .ok (.getfield 39, 3) := by decide +kernel
theorem dX5_has_104 : decode cX5_has 104 = .ok (.bipush 7, 2) := by decide +kernel
theorem dX5_has_106 : decode cX5_has 106 = .ok (.iload_n 1, 1) := by decide +kernel
theorem dX5_has_107 : decode cX5_has 107 = .ok (.imul, 1) := by decide +kernel
theorem dX5_has_108 : decode cX5_has 108 = .ok (.iload_n 2, 1) := by decide +kernel
theorem dX5_has_109 : decode cX5_has 109 = .ok (.iadd, 1) := by decide +kernel
theorem dX5_has_110 : decode cX5_has 110 = .ok (.iconst 4, 1) := by decide +kernel
theorem dX5_has_111 : decode cX5_has 111 = .ok (.isub, 1) := by decide +kernel
theorem dX5_has_112 : decode cX5_has 112 = .ok (.iaload, 1) := by decide +kernel
theorem dX5_has_113 : decode cX5_has 113 = .ok (.ireturn, 1) := by decide +kernel
theorem dX5_set_0 : decode cX5_set 0 = .ok (.aload_n 0, 1) := by decide +kernel
theorem dX5_set_1 : decode cX5_set 1 = .ok (.iload_n 1, 1) := by decide +kernel
theorem dX5_set_2 : decode cX5_set 2 = .ok (.ifCond .lt 9, 3) := by decide +kernel
theorem dX5_set_5 : decode cX5_set 5 = .ok (.iload_n 1, 1) := by decide +kernel
theorem dX5_set_6 : decode cX5_set 6 = .ok (.bipush 15, 2) := by decide +kernel
theorem dX5_set_8 : decode cX5_set 8 = .ok (.if_icmp .le 7, 3) := by decide +kernel
theorem dX5_set_11 : decode cX5_set 11 = .ok (.iconst 1, 1) := by decide +kernel
theorem dX5_set_12 : decode cX5_set 12 = .ok (.goto 19, 3) := by decide +kernel
theorem dX5_set_15 : decode cX5_set 15 = .ok (.iload_n 2, 1) := by decide +kernel
theorem dX5_set_16 : decode cX5_set 16 = .ok (.ifCond .lt 10, 3) := by decide +kernel
theorem dX5_set_19 : decode cX5_set 19 = .ok (.iload_n 2, 1) := by decide +kernel
theorem dX5_set_20 : decode cX5_set 20 = .ok (.sipush 255, 3) := by decide +kernel
theorem dX5_set_23 : decode cX5_set 23 = .ok (.if_icmp .le 7, 3) := by decide +kernel
theorem dX5_set_26 : decode cX5_set 26 = .ok (.iconst 2, 1) := by decide +kernel
theorem dX5_set_27 : decode cX5_set 27 = .ok (.goto 4, 3) := by decide +kernel
theorem dX5_set_30 : decode cX5_set 30 = .ok (.iconst 0, 1) := by decide +kernel
theorem dX5_set_31 : decode cX5_set 31 = .ok (.putfield 48, 3) := by decide +kernel
theorem dX5_set_34 : decode cX5_set 34 = .ok (.aload_n 0, 1) := by decide +kernel
theorem dX5_set_35 : decode cX5_set 35 = .ok (.getfield 48, 3) := by decide +kernel
theorem dX5_set_38 : decode cX5_set 38 = .ok (.ifCond .le 5, 3) := by decide +kernel
theorem dX5_set_41 : decode cX5_set 41 = .ok (.iconst 0, 1) := by decide +kernel
theorem dX5_set_42 : decode cX5_set 42 = .ok (.ireturn, 1) := by decide +kernel
theorem dX5_set_43 : decode cX5_set 43 = .ok (.aload_n 0, 1) := by decide +kernel
theorem dX5_set_44 : decode cX5_set 44 = .ok (.getfield 42, 3) := by decide +kernel
theorem dX5_set_47 : decode cX5_set 47 = .ok (.iload_n 1, 1) := by decide +kernel
theorem dX5_set_48 : decode cX5_set 48 = .ok (.iaload, 1) := by decide +kernel
theorem dX5_set_49 : decode cX5_set 49 = .ok (.istore_n 3, 1) := by decide +kernel
theorem dX5_set_50 : decode cX5_set 50 = .ok (.aload_n 0, 1) := by decide +kernel
theorem dX5_set_51 : decode cX5_set 51 = .ok (.getfield 42, 3) := by decide +kernel
theorem dX5_set_54 : decode cX5_set 54 = .ok (.iload_n 1, 1) := by decide +kernel
theorem dX5_set_55 : decode cX5_set 55 = .ok (.iload_n 2, 1) := by decide +kernel
theorem dX5_set_56 : decode cX5_set 56 = .ok (.iastore, 1) := by decide +kernel
theorem dX5_set_57 : decode cX5_set 57 = .ok (.iload_n 3, 1) := by decide +kernel
theorem dX5_set_58 : decode cX5_set 58 = .ok (.ireturn, 1) := by decide +kernel
theorem dX5_buffer_0 : decode cX5_buffer 0 = .ok (.aload_n 0, 1) := by decide +kernel
theorem dX5_buffer_1 : decode cX5_buffer 1 = .ok (.iload_n 1, 1) := by decide +kernel
theorem dX5_buffer_2 : decode cX5_buffer 2 = .ok (.ifCond .lt 8, 3) := by decide +kernel
theorem dX5_buffer_5 : decode cX5_buffer 5 = .ok (.iload_n 1, 1) := by decide +kernel
theorem dX5_buffer_6 : decode cX5_buffer 6 = .ok (.iconst 1, 1) := by decide +kernel
theorem dX5_buffer_7 : decode cX5_buffer 7 = .ok (.if_icmp .le 7, 3) := by decide +kernel
theorem dX5_buffer_10 : decode cX5_buffer 10 = .ok (.iconst 1, 1) := by decide +kernel
theorem dX5_buffer_11 : decode cX5_buffer 11 = .ok (.goto 4, 3) := by decide +kernel
theorem dX5_buffer_14 : decode cX5_buffer 14 = .ok (.iconst 0, 1) := by decide +kernel
theorem dX5_buffer_15 : decode cX5_buffer 15 = .ok (.putfield 48, 3) := by decide +kernel
theorem dX5_buffer_18 : decode cX5_buffer 18 = .ok (.lconst 0, 1) := by decide +kernel
theorem dX5_buffer_19 : decode cX5_buffer 19 = .ok (.lstore_n 2, 1) := by decide +kernel
theorem dX5_buffer_20 : decode cX5_buffer 20 = .ok (.iconst 0, 1) := by decide +kernel
theorem dX5_buffer_21 : decode cX5_buffer 21 = .ok (.istore 4, 2) := by decide +kernel
theorem dX5_buffer_23 : decode cX5_buffer 23 = .ok (.iload 4, 2) := by decide +kernel
theorem dX5_buffer_25 : decode cX5_buffer 25 = .ok (.bipush 8, 2) := by decide +kernel
theorem dX5_buffer_27 : decode cX5_buffer 27 = .ok (.if_icmp .ge 38, 3) := by decide +kernel
theorem dX5_buffer_30 : decode cX5_buffer 30 = .ok (.aload_n 0, 1) := by decide +kernel
theorem dX5_buffer_31 : decode cX5_buffer 31 = .ok (.getfield 48, 3) := by decide +kernel
theorem dX5_buffer_34 : decode cX5_buffer 34 = .ok (.ifCond .ne 31, 3) := by decide +kernel
theorem dX5_buffer_37 : decode cX5_buffer 37 = .ok (.lload_n 2, 1) := by decide +kernel
theorem dX5_buffer_38 : decode cX5_buffer 38 = .ok (.aload_n 0, 1) := by decide +kernel
theorem dX5_buffer_39 : decode cX5_buffer 39 = .ok (.getfield 42, 3) := by decide +kernel
theorem dX5_buffer_42 : decode cX5_buffer 42 = .ok (.bipush 8, 2) := by decide +kernel
theorem dX5_buffer_44 : decode cX5_buffer 44 = .ok (.iload_n 1, 1) := by decide +kernel
theorem dX5_buffer_45 : decode cX5_buffer 45 = .ok (.imul, 1) := by decide +kernel
theorem dX5_buffer_46 : decode cX5_buffer 46 = .ok (.iload 4, 2) := by decide +kernel
theorem dX5_buffer_48 : decode cX5_buffer 48 = .ok (.iadd, 1) := by decide +kernel
theorem dX5_buffer_49 : decode cX5_buffer 49 = .ok (.iaload, 1) := by decide +kernel
theorem dX5_buffer_50 : decode cX5_buffer 50 = .ok (.i2l, 1) := by decide +kernel
theorem dX5_buffer_51 : decode cX5_buffer 51 = .ok (.bipush 8, 2) := by decide +kernel
theorem dX5_buffer_53 : decode cX5_buffer 53 = .ok (.iload 4, 2) := by decide +kernel
theorem dX5_buffer_55 : decode cX5_buffer 55 = .ok (.imul, 1) := by decide +kernel
theorem dX5_buffer_56 : decode cX5_buffer 56 = .ok (.lshl, 1) := by decide +kernel
theorem dX5_buffer_57 : decode cX5_buffer 57 = .ok (.lor, 1) := by decide +kernel
theorem dX5_buffer_58 : decode cX5_buffer 58 = .ok (.lstore_n 2, 1) := by decide +kernel
theorem dX5_buffer_59 : decode cX5_buffer 59 = .ok (.iinc 4 1, 3) := by decide +kernel
theorem dX5_buffer_62 : decode cX5_buffer 62 = .ok (.goto (-39), 3) := by decide +kernel
theorem dX5_buffer_65 : decode cX5_buffer 65 = .ok (.lload_n 2, 1) := by decide +kernel
theorem dX5_buffer_66 : decode cX5_buffer 66 = .ok (.lreturn, 1) := by decide +kernel
theorem dX5_disk_0 : decode cX5_disk 0 = .ok (.aload_n 0, 1) := by decide +kernel
theorem dX5_disk_1 : decode cX5_disk 1 = .ok (.iload_n 1, 1) := by decide +kernel
theorem dX5_disk_2 : decode cX5_disk 2 = .ok (.ifCond .lt 10, 3) := by decide +kernel
theorem dX5_disk_5 : decode cX5_disk 5 = .ok (.iload_n 1, 1) := by decide +kernel
theorem dX5_disk_6 : decode cX5_disk 6 = .ok (.sipush 4095, 3) := by decide +kernel
theorem dX5_disk_9 : decode cX5_disk 9 = .ok (.if_icmp .le 7, 3) := by decide +kernel
theorem dX5_disk_12 : decode cX5_disk 12 = .ok (.iconst 1, 1) := by decide +kernel
theorem dX5_disk_13 : decode cX5_disk 13 = .ok (.goto 4, 3) := by decide +kernel
theorem dX5_disk_16 : decode cX5_disk 16 = .ok (.iconst 0, 1) := by decide +kernel
theorem dX5_disk_17 : decode cX5_disk 17 = .ok (.putfield 48, 3) := by decide +kernel
theorem dX5_disk_20 : decode cX5_disk 20 = .ok (.aload_n 0, 1) := by decide +kernel
theorem dX5_disk_21 : decode cX5_disk 21 = .ok (.getfield 48, 3) := by decide +kernel
theorem dX5_disk_24 : decode cX5_disk 24 = .ok (.ifCond .le 7, 3) := by decide +kernel
theorem dX5_disk_27 : decode cX5_disk 27 = .ok (.iconst 0, 1) := by decide +kernel
theorem dX5_disk_28 : decode cX5_disk 28 = .ok (.goto 9, 3) := by decide +kernel
theorem dX5_disk_31 : decode cX5_disk 31 = .ok (.aload_n 0, 1) := by decide +kernel
theorem dX5_disk_32 : decode cX5_disk 32 = .ok (.getfield 7, 3) := by decide +kernel
theorem dX5_disk_35 : decode cX5_disk 35 = .ok (.iload_n 1, 1) := by decide +kernel
theorem dX5_disk_36 : decode cX5_disk 36 = .ok (.iaload, 1) := by decide +kernel
theorem dX5_disk_37 : decode cX5_disk 37 = .ok (.ireturn, 1) := by decide +kernel
theorem dX5_spoil_0 : decode cX5_spoil 0 = .ok (.aload_n 0, 1) := by decide +kernel
theorem dX5_spoil_1 : decode cX5_spoil 1 = .ok (.iload_n 1, 1) := by decide +kernel
theorem dX5_spoil_2 : decode cX5_spoil 2 = .ok (.ifCond .lt 10, 3) := by decide +kernel
theorem dX5_spoil_5 : decode cX5_spoil 5 = .ok (.iload_n 1, 1) := by decide +kernel
theorem dX5_spoil_6 : decode cX5_spoil 6 = .ok (.sipush 4095, 3) := by decide +kernel
theorem dX5_spoil_9 : decode cX5_spoil 9 = .ok (.if_icmp .le 7, 3) := by decide +kernel
theorem dX5_spoil_12 : decode cX5_spoil 12 = .ok (.iconst 1, 1) := by decide +kernel
theorem dX5_spoil_13 : decode cX5_spoil 13 = .ok (.goto 19, 3) := by decide +kernel
theorem dX5_spoil_16 : decode cX5_spoil 16 = .ok (.iload_n 2, 1) := by decide +kernel
theorem dX5_spoil_17 : decode cX5_spoil 17 = .ok (.ifCond .lt 10, 3) := by decide +kernel
theorem dX5_spoil_20 : decode cX5_spoil 20 = .ok (.iload_n 2, 1) := by decide +kernel
theorem dX5_spoil_21 : decode cX5_spoil 21 = .ok (.sipush 255, 3) := by decide +kernel
theorem dX5_spoil_24 : decode cX5_spoil 24 = .ok (.if_icmp .le 7, 3) := by decide +kernel
theorem dX5_spoil_27 : decode cX5_spoil 27 = .ok (.iconst 2, 1) := by decide +kernel
theorem dX5_spoil_28 : decode cX5_spoil 28 = .ok (.goto 4, 3) := by decide +kernel
theorem dX5_spoil_31 : decode cX5_spoil 31 = .ok (.iconst 0, 1) := by decide +kernel
theorem dX5_spoil_32 : decode cX5_spoil 32 = .ok (.putfield 48, 3) := by decide +kernel
theorem dX5_spoil_35 : decode cX5_spoil 35 = .ok (.aload_n 0, 1) := by decide +kernel
theorem dX5_spoil_36 : decode cX5_spoil 36 = .ok (.getfield 48, 3) := by decide +kernel
theorem dX5_spoil_39 : decode cX5_spoil 39 = .ok (.ifCond .ne 10, 3) := by decide +kernel
theorem dX5_spoil_42 : decode cX5_spoil 42 = .ok (.aload_n 0, 1) := by decide +kernel
theorem dX5_spoil_43 : decode cX5_spoil 43 = .ok (.getfield 7, 3) := by decide +kernel
theorem dX5_spoil_46 : decode cX5_spoil 46 = .ok (.iload_n 1, 1) := by decide +kernel
theorem dX5_spoil_47 : decode cX5_spoil 47 = .ok (.iload_n 2, 1) := by decide +kernel
theorem dX5_spoil_48 : decode cX5_spoil 48 = .ok (.iastore, 1) := by decide +kernel
theorem dX5_spoil_49 : decode cX5_spoil 49 = .ok (.return_, 1) := by decide +kernel
set_option maxRecDepth 20000 in
theorem ggX5_places_X5_isFree : GoodIn wsX5_places wsX5_isFree := goodIn_r _ [6, 1, 7, 8, 9, 10, 11, 12, 13, 14, 15, 16, 17, 18, 19, 20, 21] (by decide +kernel) (by decide +kernel)
set_option maxRecDepth 20000 in
theorem gX5_places_X5_isFree : GoodIn wsX5_places (wsV RX5 58 RX5 yX5_isFree wsX5_isFree) := goodIn_app (goodIn_of _ (by decide +kernel)) ggX5_places_X5_isFree
theorem dX5_places_0 : decode cX5_places 0 = .ok (.iconst 0, 1) := by decide +kernel
theorem dX5_places_1 : decode cX5_places 1 = .ok (.istore_n 2, 1) := by decide +kernel
theorem dX5_places_2 : decode cX5_places 2 = .ok (.iconst 0, 1) := by decide +kernel
theorem dX5_places_3 : decode cX5_places 3 = .ok (.istore_n 3, 1) := by decide +kernel
theorem dX5_places_4 : decode cX5_places 4 = .ok (.iload_n 3, 1) := by decide +kernel
theorem dX5_places_5 : decode cX5_places 5 = .ok (.bipush 32, 2) := by decide +kernel
theorem dX5_places_7 : decode cX5_places 7 = .ok (.if_icmp .ge 70, 3) := by decide +kernel
theorem dX5_places_10 : decode cX5_places 10 = .ok (.bipush 9, 2) := by decide +kernel
theorem dX5_places_12 : decode cX5_places 12 = .ok (.istore 4, 2) := by decide +kernel
theorem dX5_places_14 : decode cX5_places 14 = .ok (.iload 4, 2) := by decide +kernel
theorem dX5_places_16 : decode cX5_places 16 = .ok (.bipush 16, 2) := by decide +kernel
theorem dX5_places_18 : decode cX5_places 18 = .ok (.if_icmp .ge 53, 3) := by decide +kernel
theorem dX5_places_21 : decode cX5_places 21 = .ok (.aload_n 0, 1) := by decide +kernel
theorem dX5_places_22 : decode cX5_places 22 = .ok (.getfield 7, 3) := by decide +kernel
theorem dX5_places_25 : decode cX5_places 25 = .ok (.bipush 16, 2) := by decide +kernel
theorem dX5_places_27 : decode cX5_places 27 = .ok (.iload_n 3, 1) := by decide +kernel
theorem dX5_places_28 : decode cX5_places 28 = .ok (.imul, 1) := by decide +kernel
theorem dX5_places_29 : decode cX5_places 29 = .ok (.iload 4, 2) := by decide +kernel
theorem dX5_places_31 : decode cX5_places 31 = .ok (.iadd, 1) := by decide +kernel
theorem dX5_places_32 : decode cX5_places 32 = .ok (.iaload, 1) := by decide +kernel
theorem dX5_places_33 : decode cX5_places 33 = .ok (.istore 5, 2) := by decide +kernel
theorem dX5_places_35 : decode cX5_places 35 = .ok (.aload_n 0, 1) := by decide +kernel
theorem dX5_places_36 : decode cX5_places 36 = .ok (.iload_n 3, 1) := by decide +kernel
theorem dX5_places_37 : decode cX5_places 37 = .ok (.invokevirtual 58, 3) := by decide +kernel
theorem dX5_places_40 : decode cX5_places 40 = .ok (.ifCond .ne 23, 3) := by decide +kernel
theorem dX5_places_43 : decode cX5_places 43 = .ok (.iload 5, 2) := by decide +kernel
theorem dX5_places_45 : decode cX5_places 45 = .ok (.ifCond .eq 18, 3) := by decide +kernel
theorem dX5_places_48 : decode cX5_places 48 = .ok (.iload 5, 2) := by decide +kernel
theorem dX5_places_50 : decode cX5_places 50 = .ok (.bipush 64, 2) := by decide +kernel
theorem dX5_places_52 : decode cX5_places 52 = .ok (.irem, 1) := by decide +kernel
theorem dX5_places_53 : decode cX5_places 53 = .ok (.iload_n 1, 1) := by decide +kernel
theorem dX5_places_54 : decode cX5_places 54 = .ok (.if_icmp .ne 9, 3) := by decide +kernel
theorem dX5_places_57 : decode cX5_places 57 = .ok (.iload_n 2, 1) := by decide +kernel
theorem dX5_places_58 : decode cX5_places 58 = .ok (.iconst 1, 1) := by decide +kernel
theorem dX5_places_59 : decode cX5_places 59 = .ok (.iadd, 1) := by decide +kernel
theorem dX5_places_60 : decode cX5_places 60 = .ok (.goto 4, 3) := by decide +kernel
theorem dX5_places_63 : decode cX5_places 63 = .ok (.iload_n 2, 1) := by decide +kernel
theorem dX5_places_64 : decode cX5_places 64 = .ok (.istore_n 2, 1) := by decide +kernel
theorem dX5_places_65 : decode cX5_places 65 = .ok (.iinc 4 1, 3) := by decide +kernel
theorem dX5_places_68 : decode cX5_places 68 = .ok (.goto (-54), 3) := by decide +kernel
theorem dX5_places_71 : decode cX5_places 71 = .ok (.iinc 3 1, 3) := by decide +kernel
theorem dX5_places_74 : decode cX5_places 74 = .ok (.goto (-70), 3) := by decide +kernel
theorem dX5_places_77 : decode cX5_places 77 = .ok (.iload_n 2, 1) := by decide +kernel
theorem dX5_places_78 : decode cX5_places 78 = .ok (.ireturn, 1) := by decide +kernel
set_option maxRecDepth 20000 in
theorem ggX5_told_X5_places : GoodIn wsX5_told wsX5_places := goodIn_r _ [7, 8, 9, 10, 11, 6, 12, 18, 19, 20, 21, 22, 23, 24, 25, 26, 27, 28, 29, 30, 31, 32] (by decide +kernel) (by decide +kernel)
set_option maxRecDepth 20000 in
theorem gX5_told_X5_places : GoodIn wsX5_told (wsV RX5 115 RX5 yX5_places wsX5_places) := goodIn_app (goodIn_of _ (by decide +kernel)) ggX5_told_X5_places
set_option maxRecDepth 20000 in
theorem ggX5_told_X5_isFree : GoodIn wsX5_told wsX5_isFree := goodIn_r _ [12, 8, 18, 19, 20, 21, 22, 23, 24, 25, 26, 27, 28, 29, 30, 31, 32] (by decide +kernel) (by decide +kernel)
set_option maxRecDepth 20000 in
theorem gX5_told_X5_isFree : GoodIn wsX5_told (wsV RX5 58 RX5 yX5_isFree wsX5_isFree) := goodIn_app (goodIn_of _ (by decide +kernel)) ggX5_told_X5_isFree
set_option maxRecDepth 20000 in
theorem ggX5_told_X5_untaken : GoodIn wsX5_told wsX5_untaken := goodIn_r _ [16, 17, 18, 19, 20, 21, 22, 23, 24, 25, 26, 27, 28, 29, 30, 31, 32] (by decide +kernel) (by decide +kernel)
set_option maxRecDepth 20000 in
theorem gX5_told_X5_untaken : GoodIn wsX5_told (wsV RX5 65 RX5 yX5_untaken wsX5_untaken) := goodIn_app (goodIn_of _ (by decide +kernel)) ggX5_told_X5_untaken
theorem dX5_told_0 : decode cX5_told 0 = .ok (.aload_n 0, 1) := by decide +kernel
theorem dX5_told_1 : decode cX5_told 1 = .ok (.iload_n 1, 1) := by decide +kernel
theorem dX5_told_2 : decode cX5_told 2 = .ok (.ifCond .lt 8, 3) := by decide +kernel
theorem dX5_told_5 : decode cX5_told 5 = .ok (.iload_n 1, 1) := by decide +kernel
theorem dX5_told_6 : decode cX5_told 6 = .ok (.iconst 3, 1) := by decide +kernel
theorem dX5_told_7 : decode cX5_told 7 = .ok (.if_icmp .le 7, 3) := by decide +kernel
theorem dX5_told_10 : decode cX5_told 10 = .ok (.iconst 1, 1) := by decide +kernel
theorem dX5_told_11 : decode cX5_told 11 = .ok (.goto 4, 3) := by decide +kernel
theorem dX5_told_14 : decode cX5_told 14 = .ok (.iconst 0, 1) := by decide +kernel
theorem dX5_told_15 : decode cX5_told 15 = .ok (.putfield 48, 3) := by decide +kernel
theorem dX5_told_18 : decode cX5_told 18 = .ok (.aload_n 0, 1) := by decide +kernel
theorem dX5_told_19 : decode cX5_told 19 = .ok (.getfield 48, 3) := by decide +kernel
theorem dX5_told_22 : decode cX5_told 22 = .ok (.ifCond .le 5, 3) := by decide +kernel
theorem dX5_told_25 : decode cX5_told 25 = .ok (.iconst 0, 1) := by decide +kernel
theorem dX5_told_26 : decode cX5_told 26 = .ok (.ireturn, 1) := by decide +kernel
theorem dX5_told_27 : decode cX5_told 27 = .ok (.iconst 0, 1) := by decide +kernel
theorem dX5_told_28 : decode cX5_told 28 = .ok (.istore_n 2, 1) := by decide +kernel
theorem dX5_told_29 : decode cX5_told 29 = .ok (.bipush 8, 2) := by decide +kernel
theorem dX5_told_31 : decode cX5_told 31 = .ok (.istore_n 3, 1) := by decide +kernel
theorem dX5_told_32 : decode cX5_told 32 = .ok (.iload_n 3, 1) := by decide +kernel
theorem dX5_told_33 : decode cX5_told 33 = .ok (.bipush 64, 2) := by decide +kernel
theorem dX5_told_35 : decode cX5_told 35 = .ok (.if_icmp .ge 31, 3) := by decide +kernel
theorem dX5_told_38 : decode cX5_told 38 = .ok (.iload_n 1, 1) := by decide +kernel
theorem dX5_told_39 : decode cX5_told 39 = .ok (.iconst 1, 1) := by decide +kernel
theorem dX5_told_40 : decode cX5_told 40 = .ok (.if_icmp .ne 26, 3) := by decide +kernel
theorem dX5_told_43 : decode cX5_told 43 = .ok (.aload_n 0, 1) := by decide +kernel
theorem dX5_told_44 : decode cX5_told 44 = .ok (.iload_n 3, 1) := by decide +kernel
theorem dX5_told_45 : decode cX5_told 45 = .ok (.invokevirtual 115, 3) := by decide +kernel
theorem dX5_told_48 : decode cX5_told 48 = .ok (.iconst 1, 1) := by decide +kernel
theorem dX5_told_49 : decode cX5_told 49 = .ok (.if_icmp .le 9, 3) := by decide +kernel
theorem dX5_told_52 : decode cX5_told 52 = .ok (.iload_n 2, 1) := by decide +kernel
theorem dX5_told_53 : decode cX5_told 53 = .ok (.iconst 1, 1) := by decide +kernel
theorem dX5_told_54 : decode cX5_told 54 = .ok (.iadd, 1) := by decide +kernel
theorem dX5_told_55 : decode cX5_told 55 = .ok (.goto 4, 3) := by decide +kernel
theorem dX5_told_58 : decode cX5_told 58 = .ok (.iload_n 2, 1) := by decide +kernel
theorem dX5_told_59 : decode cX5_told 59 = .ok (.istore_n 2, 1) := by decide +kernel
theorem dX5_told_60 : decode cX5_told 60 = .ok (.iinc 3 1, 3) := by decide +kernel
theorem dX5_told_63 : decode cX5_told 63 = .ok (.goto (-31), 3) := by decide +kernel
theorem dX5_told_66 : decode cX5_told 66 = .ok (.iconst 0, 1) := by decide +kernel
theorem dX5_told_67 : decode cX5_told 67 = .ok (.istore_n 3, 1) := by decide +kernel
theorem dX5_told_68 : decode cX5_told 68 = .ok (.iload_n 3, 1) := by decide +kernel
theorem dX5_told_69 : decode cX5_told 69 = .ok (.bipush 32, 2) := by decide +kernel
theorem dX5_told_71 : decode cX5_told 71 = .ok (.if_icmp .ge 30, 3) := by decide +kernel
theorem dX5_told_74 : decode cX5_told 74 = .ok (.iload_n 1, 1) := by decide +kernel
theorem dX5_told_75 : decode cX5_told 75 = .ok (.iconst 2, 1) := by decide +kernel
theorem dX5_told_76 : decode cX5_told 76 = .ok (.if_icmp .ne 25, 3) := by decide +kernel
theorem dX5_told_79 : decode cX5_told 79 = .ok (.aload_n 0, 1) := by decide +kernel
theorem dX5_told_80 : decode cX5_told 80 = .ok (.iload_n 3, 1) := by decide +kernel
theorem dX5_told_81 : decode cX5_told 81 = .ok (.invokevirtual 58, 3) := by decide +kernel
theorem dX5_told_84 : decode cX5_told 84 = .ok (.ifCond .eq 9, 3) := by decide +kernel
theorem dX5_told_87 : decode cX5_told 87 = .ok (.iload_n 2, 1) := by decide +kernel
theorem dX5_told_88 : decode cX5_told 88 = .ok (.iconst 1, 1) := by decide +kernel
theorem dX5_told_89 : decode cX5_told 89 = .ok (.iadd, 1) := by decide +kernel
theorem dX5_told_90 : decode cX5_told 90 = .ok (.goto 4, 3) := by decide +kernel
theorem dX5_told_93 : decode cX5_told 93 = .ok (.iload_n 2, 1) := by decide +kernel
theorem dX5_told_94 : decode cX5_told 94 = .ok (.istore_n 2, 1) := by decide +kernel
theorem dX5_told_95 : decode cX5_told 95 = .ok (.iinc 3 1, 3) := by decide +kernel
theorem dX5_told_98 : decode cX5_told 98 = .ok (.goto (-30), 3) := by decide +kernel
theorem dX5_told_101 : decode cX5_told 101 = .ok (.iload_n 1, 1) := by decide +kernel
theorem dX5_told_102 : decode cX5_told 102 = .ok (.ifCond .ne 10, 3) := by decide +kernel
theorem dX5_told_105 : decode cX5_told 105 = .ok (.aload_n 0, 1) := by decide +kernel
theorem dX5_told_106 : decode cX5_told 106 = .ok (.invokevirtual 65, 3) := by decide +kernel
theorem dX5_told_109 : decode cX5_told 109 = .ok (.goto 16, 3) := by decide +kernel
theorem dX5_told_112 : decode cX5_told 112 = .ok (.iload_n 1, 1) := by decide +kernel
theorem dX5_told_113 : decode cX5_told 113 = .ok (.iconst 3, 1) := by decide +kernel
theorem dX5_told_114 : decode cX5_told 114 = .ok (.if_icmp .ne 10, 3) := by decide +kernel
theorem dX5_told_117 : decode cX5_told 117 = .ok (.aload_n 0, 1) := by decide +kernel
theorem dX5_told_118 : decode cX5_told 118 = .ok (.getfield 62, 3) := by decide +kernel
theorem dX5_told_121 : decode cX5_told 121 = .ok (.goto 4, 3) := by decide +kernel
theorem dX5_told_124 : decode cX5_told 124 = .ok (.iload_n 2, 1) := by decide +kernel
theorem dX5_told_125 : decode cX5_told 125 = .ok (.ireturn, 1) := by decide +kernel
