theorem dX0_init_0 : decode cX0_init 0 = .ok (.aload_n 0, 1) := by decide +kernel
theorem dX0_init_1 : decode cX0_init 1 = .ok (.invokespecial 3, 3) := by decide +kernel
theorem dX0_init_4 : decode cX0_init 4 = .ok (.aload_n 0, 1) := by decide +kernel
theorem dX0_init_5 : decode cX0_init 5 = .ok (.bipush 10, 2) := by decide +kernel
theorem dX0_init_7 : decode cX0_init 7 = .ok (.newarray .int, 2) := by decide +kernel
theorem dX0_init_9 : decode cX0_init 9 = .ok (.putfield 9, 3) := by decide +kernel
theorem dX0_init_12 : decode cX0_init 12 = .ok (.aload_n 0, 1) := by decide +kernel
theorem dX0_init_13 : decode cX0_init 13 = .ok (.bipush 10, 2) := by decide +kernel
theorem dX0_init_15 : decode cX0_init 15 = .ok (.newarray .boolean, 2) := by decide +kernel
theorem dX0_init_17 : decode cX0_init 17 = .ok (.putfield 15, 3) := by decide +kernel
theorem dX0_init_20 : decode cX0_init 20 = .ok (.aload_n 0, 1) := by decide +kernel
theorem dX0_init_21 : decode cX0_init 21 = .ok (.bipush 10, 2) := by decide +kernel
theorem dX0_init_23 : decode cX0_init 23 = .ok (.newarray .boolean, 2) := by decide +kernel
theorem dX0_init_25 : decode cX0_init 25 = .ok (.putfield 19, 3) := by decide +kernel
theorem dX0_init_28 : decode cX0_init 28 = .ok (.aload_n 0, 1) := by decide +kernel
theorem dX0_init_29 : decode cX0_init 29 = .ok (.bipush 11, 2) := by decide +kernel
theorem dX0_init_31 : decode cX0_init 31 = .ok (.bipush 60, 2) := by decide +kernel
theorem dX0_init_33 : decode cX0_init 33 = .ok (.multianewarray 22 2, 4) := by decide +kernel
theorem dX0_init_37 : decode cX0_init 37 = .ok (.putfield 24, 3) := by decide +kernel
theorem dX0_init_40 : decode cX0_init 40 = .ok (.aload_n 0, 1) := by decide +kernel
theorem dX0_init_41 : decode cX0_init 41 = .ok (.iconst 0, 1) := by decide +kernel
theorem dX0_init_42 : decode cX0_init 42 = .ok (.putfield 27, 3) := by decide +kernel
theorem dX0_init_45 : decode cX0_init 45 = .ok (.aload_n 0, 1) := by decide +kernel
theorem dX0_init_46 : decode cX0_init 46 = .ok (.ldc2_w 31, 3) := by decide +kernel
theorem dX0_init_49 : decode cX0_init 49 = .ok (.putfield 33, 3) := by decide +kernel
theorem dX0_init_52 : decode cX0_init 52 = .ok (.aload_n 0, 1) := by decide +kernel
theorem dX0_init_53 : decode cX0_init 53 = .ok (.iconst 0, 1) := by decide +kernel
theorem dX0_init_54 : decode cX0_init 54 = .ok (.putfield 37, 3) := by decide +kernel
theorem dX0_init_57 : decode cX0_init 57 = .ok (.aload_n 0, 1) := by decide +kernel
theorem dX0_init_58 : decode cX0_init 58 = .ok (.aload_n 1, 1) := by decide +kernel
theorem dX0_init_59 : decode cX0_init 59 = .ok (.putfield 40, 3) := by decide +kernel
theorem dX0_init_62 : decode cX0_init 62 = .ok (.aload_n 0, 1) := by decide +kernel
theorem dX0_init_63 : decode cX0_init 63 = .ok (.aload_n 2, 1) := by decide +kernel
theorem dX0_init_64 : decode cX0_init 64 = .ok (.putfield 44, 3) := by decide +kernel
theorem dX0_init_67 : decode cX0_init 67 = .ok (.return_, 1) := by decide +kernel
set_option maxRecDepth 20000 in
theorem ggX0_make_X0_gather : GoodIn wsX0_make wsX0_gather := goodIn_r _ [14, 3, 5, 15, 16, 7, 17, 18, 19, 20, 21, 22, 23, 24, 98, 99, 100, 101, 102, 103, 104, 105, 106, 107, 108, 109, 110, 111, 112, 113, 114, 115, 116, 117, 118] (by decide +kernel) (by decide +kernel)
set_option maxRecDepth 20000 in
theorem gX0_make_X0_gather : GoodIn wsX0_make (wsV RX0 48 RX0 yX0_gather wsX0_gather) := goodIn_app (goodIn_of _ (by decide +kernel)) ggX0_make_X0_gather
set_option maxRecDepth 20000 in
theorem ggX0_make_X1_putEarliest : GoodIn wsX0_make wsX1_putEarliest := goodIn_r _ [28, 29, 30, 31, 107, 108, 109, 110, 111, 112, 113, 114, 115, 116, 117, 118] (by decide +kernel) (by decide +kernel)
set_option maxRecDepth 20000 in
theorem gX0_make_X1_putEarliest : GoodIn wsX0_make (wsV RX0 57 RX1 yX1_putEarliest wsX1_putEarliest) := goodIn_app (goodIn_of _ (by decide +kernel)) ggX0_make_X1_putEarliest
set_option maxRecDepth 20000 in
theorem ggX0_make_X1_settle : GoodIn wsX0_make wsX1_settle := goodIn_r _ [35, 29, 36, 37, 38, 20, 39, 40, 24, 23, 41, 42, 43, 44, 45, 46, 47, 48, 49, 50, 51, 18, 19, 21, 22, 107, 108, 109, 110, 111, 112, 113, 114, 115, 116, 117, 118] (by decide +kernel) (by decide +kernel)
set_option maxRecDepth 20000 in
theorem gX0_make_X1_settle : GoodIn wsX0_make (wsV RX0 61 RX1 yX1_settle wsX1_settle) := goodIn_app (goodIn_of _ (by decide +kernel)) ggX0_make_X1_settle
set_option maxRecDepth 20000 in
theorem ggX0_make_X0_decide : GoodIn wsX0_make wsX0_decide := goodIn_r _ [54, 3, 55, 8, 7, 5, 56, 57, 58, 59, 60, 6, 61, 62, 63, 64, 65, 66, 67, 68, 69, 70, 71, 72, 73, 74, 75, 76, 77, 78, 79, 80, 81, 82, 83, 84, 85, 86, 87, 88, 89, 90, 91, 92, 93, 94, 13, 95, 2, 1, 96, 9, 97, 43, 44, 20, 45, 24, 23, 41, 32, 33, 34, 35, 29, 36, 37, 38, 39, 40, 42, 46, 47, 48, 49, 50, 51, 18, 19, 21, 22, 52, 53, 98, 99, 100, 101, 102, 103, 104, 105, 106, 107, 108, 109, 110, 111, 112, 113, 114, 115, 116, 117, 118, 119, 120, 121, 122, 123, 124, 125, 126] (by decide +kernel) (by decide +kernel)
set_option maxRecDepth 20000 in
theorem gX0_make_X0_decide : GoodIn wsX0_make (va_wsS RX0 65 yX0_decide wsX0_decide) := goodIn_app (goodIn_of _ (by decide +kernel)) ggX0_make_X0_decide
theorem dX0_make_0 : decode cX0_make 0 = .ok (.aload_n 0, 1) := by decide +kernel
theorem dX0_make_1 : decode cX0_make 1 = .ok (.invokevirtual 48, 3) := by decide +kernel
theorem dX0_make_4 : decode cX0_make 4 = .ok (.ifCond .ne 7, 3) := by decide +kernel
theorem dX0_make_7 : decode cX0_make 7 = .ok (.ldc2_w 31, 3) := by decide +kernel
theorem dX0_make_10 : decode cX0_make 10 = .ok (.lreturn, 1) := by decide +kernel
theorem dX0_make_11 : decode cX0_make 11 = .ok (.aload_n 0, 1) := by decide +kernel
theorem dX0_make_12 : decode cX0_make 12 = .ok (.ldc2_w 31, 3) := by decide +kernel
theorem dX0_make_15 : decode cX0_make 15 = .ok (.putfield 33, 3) := by decide +kernel
theorem dX0_make_18 : decode cX0_make 18 = .ok (.iconst 0, 1) := by decide +kernel
theorem dX0_make_19 : decode cX0_make 19 = .ok (.istore_n 1, 1) := by decide +kernel
theorem dX0_make_20 : decode cX0_make 20 = .ok (.iload_n 1, 1) := by decide +kernel
theorem dX0_make_21 : decode cX0_make 21 = .ok (.aload_n 0, 1) := by decide +kernel
theorem dX0_make_22 : decode cX0_make 22 = .ok (.getfield 27, 3) := by decide +kernel
theorem dX0_make_25 : decode cX0_make 25 = .ok (.if_icmp .ge 44, 3) := by decide +kernel
theorem dX0_make_28 : decode cX0_make 28 = .ok (.aload_n 0, 1) := by decide +kernel
theorem dX0_make_29 : decode cX0_make 29 = .ok (.getfield 15, 3) := by decide +kernel
theorem dX0_make_32 : decode cX0_make 32 = .ok (.iload_n 1, 1) := by decide +kernel
theorem dX0_make_33 : decode cX0_make 33 = .ok (.aload_n 0, 1) := by decide +kernel
theorem dX0_make_34 : decode cX0_make 34 = .ok (.getfield 40, 3) := by decide +kernel
theorem dX0_make_37 : decode cX0_make 37 = .ok (.getfield 52, 3) := by decide +kernel
theorem dX0_make_40 : decode cX0_make 40 = .ok (.aload_n 0, 1) := by decide +kernel
theorem dX0_make_41 : decode cX0_make 41 = .ok (.getfield 9, 3) := by decide +kernel
theorem dX0_make_44 : decode cX0_make 44 = .ok (.iload_n 1, 1) := by decide +kernel
theorem dX0_make_45 : decode cX0_make 45 = .ok (.iaload, 1) := by decide +kernel
theorem dX0_make_46 : decode cX0_make 46 = .ok (.baload, 1) := by decide +kernel
theorem dX0_make_47 : decode cX0_make 47 = .ok (.bastore, 1) := by decide +kernel
theorem dX0_make_48 : decode cX0_make 48 = .ok (.aload_n 0, 1) := by decide +kernel
theorem dX0_make_49 : decode cX0_make 49 = .ok (.getfield 40, 3) := by decide +kernel
theorem dX0_make_52 : decode cX0_make 52 = .ok (.getfield 52, 3) := by decide +kernel
theorem dX0_make_55 : decode cX0_make 55 = .ok (.aload_n 0, 1) := by decide +kernel
theorem dX0_make_56 : decode cX0_make 56 = .ok (.getfield 9, 3) := by decide +kernel
theorem dX0_make_59 : decode cX0_make 59 = .ok (.iload_n 1, 1) := by decide +kernel
theorem dX0_make_60 : decode cX0_make 60 = .ok (.iaload, 1) := by decide +kernel
theorem dX0_make_61 : decode cX0_make 61 = .ok (.iconst 0, 1) := by decide +kernel
theorem dX0_make_62 : decode cX0_make 62 = .ok (.bastore, 1) := by decide +kernel
theorem dX0_make_63 : decode cX0_make 63 = .ok (.iinc 1 1, 3) := by decide +kernel
theorem dX0_make_66 : decode cX0_make 66 = .ok (.goto (-46), 3) := by decide +kernel
theorem dX0_make_69 : decode cX0_make 69 = .ok (.aload_n 0, 1) := by decide +kernel
theorem dX0_make_70 : decode cX0_make 70 = .ok (.getfield 40, 3) := by decide +kernel
theorem dX0_make_73 : decode cX0_make 73 = .ok (.aload_n 0, 1) := by decide +kernel
theorem dX0_make_74 : decode cX0_make 74 = .ok (.getfield 24, 3) := by decide +kernel
theorem dX0_make_77 : decode cX0_make 77 = .ok (.iconst 0, 1) := by decide +kernel
theorem dX0_make_78 : decode cX0_make 78 = .ok (.aaload, 1) := by decide +kernel
theorem dX0_make_79 : decode cX0_make 79 = .ok (.invokevirtual 57, 3) := by decide +kernel
theorem dX0_make_82 : decode cX0_make 82 = .ok (.aload_n 0, 1) := by decide +kernel
theorem dX0_make_83 : decode cX0_make 83 = .ok (.getfield 40, 3) := by decide +kernel
theorem dX0_make_86 : decode cX0_make 86 = .ok (.aload_n 0, 1) := by decide +kernel
theorem dX0_make_87 : decode cX0_make 87 = .ok (.getfield 24, 3) := by decide +kernel
theorem dX0_make_90 : decode cX0_make 90 = .ok (.iconst 0, 1) := by decide +kernel
theorem dX0_make_91 : decode cX0_make 91 = .ok (.aaload, 1) := by decide +kernel
theorem dX0_make_92 : decode cX0_make 92 = .ok (.invokevirtual 61, 3) := by decide +kernel
theorem dX0_make_95 : decode cX0_make 95 = .ok (.ifCond .eq 9, 3) := by decide +kernel
theorem dX0_make_98 : decode cX0_make 98 = .ok (.aload_n 0, 1) := by decide +kernel
theorem dX0_make_99 : decode cX0_make 99 = .ok (.iconst 0, 1) := by decide +kernel
theorem dX0_make_100 : decode cX0_make 100 = .ok (.iconst 0, 1) := by decide +kernel
theorem dX0_make_101 : decode cX0_make 101 = .ok (.invokestatic 65, 3) := by decide +kernel
theorem dX0_make_104 : decode cX0_make 104 = .ok (.iconst 0, 1) := by decide +kernel
theorem dX0_make_105 : decode cX0_make 105 = .ok (.istore_n 1, 1) := by decide +kernel
theorem dX0_make_106 : decode cX0_make 106 = .ok (.iload_n 1, 1) := by decide +kernel
theorem dX0_make_107 : decode cX0_make 107 = .ok (.aload_n 0, 1) := by decide +kernel
theorem dX0_make_108 : decode cX0_make 108 = .ok (.getfield 27, 3) := by decide +kernel
theorem dX0_make_111 : decode cX0_make 111 = .ok (.if_icmp .ge 49, 3) := by decide +kernel
theorem dX0_make_114 : decode cX0_make 114 = .ok (.aload_n 0, 1) := by decide +kernel
theorem dX0_make_115 : decode cX0_make 115 = .ok (.getfield 40, 3) := by decide +kernel
theorem dX0_make_118 : decode cX0_make 118 = .ok (.getfield 52, 3) := by decide +kernel
theorem dX0_make_121 : decode cX0_make 121 = .ok (.aload_n 0, 1) := by decide +kernel
theorem dX0_make_122 : decode cX0_make 122 = .ok (.getfield 9, 3) := by decide +kernel
theorem dX0_make_125 : decode cX0_make 125 = .ok (.iload_n 1, 1) := by decide +kernel
theorem dX0_make_126 : decode cX0_make 126 = .ok (.iaload, 1) := by decide +kernel
theorem dX0_make_127 : decode cX0_make 127 = .ok (.aload_n 0, 1) := by decide +kernel
theorem dX0_make_128 : decode cX0_make 128 = .ok (.getfield 33, 3) := by decide +kernel
theorem dX0_make_131 : decode cX0_make 131 = .ok (.ldc2_w 31, 3) := by decide +kernel
theorem dX0_make_134 : decode cX0_make 134 = .ok (.lcmp, 1) := by decide +kernel
theorem dX0_make_135 : decode cX0_make 135 = .ok (.ifCond .ne 12, 3) := by decide +kernel
theorem dX0_make_138 : decode cX0_make 138 = .ok (.aload_n 0, 1) := by decide +kernel
theorem dX0_make_139 : decode cX0_make 139 = .ok (.getfield 15, 3) := by decide +kernel
theorem dX0_make_142 : decode cX0_make 142 = .ok (.iload_n 1, 1) := by decide +kernel
theorem dX0_make_143 : decode cX0_make 143 = .ok (.baload, 1) := by decide +kernel
theorem dX0_make_144 : decode cX0_make 144 = .ok (.goto 9, 3) := by decide +kernel
theorem dX0_make_147 : decode cX0_make 147 = .ok (.aload_n 0, 1) := by decide +kernel
theorem dX0_make_148 : decode cX0_make 148 = .ok (.getfield 19, 3) := by decide +kernel
theorem dX0_make_151 : decode cX0_make 151 = .ok (.iload_n 1, 1) := by decide +kernel
theorem dX0_make_152 : decode cX0_make 152 = .ok (.baload, 1) := by decide +kernel
theorem dX0_make_153 : decode cX0_make 153 = .ok (.bastore, 1) := by decide +kernel
theorem dX0_make_154 : decode cX0_make 154 = .ok (.iinc 1 1, 3) := by decide +kernel
theorem dX0_make_157 : decode cX0_make 157 = .ok (.goto (-51), 3) := by decide +kernel
theorem dX0_make_160 : decode cX0_make 160 = .ok (.aload_n 0, 1) := by decide +kernel
theorem dX0_make_161 : decode cX0_make 161 = .ok (.getfield 33, 3) := by decide +kernel
theorem dX0_make_164 : decode cX0_make 164 = .ok (.lreturn, 1) := by decide +kernel
set_option maxRecDepth 20000 in
theorem ggX0_gather_X1_joinsThere : GoodIn wsX0_gather wsX1_joinsThere := goodIn_r _ [10, 11, 12, 13, 23, 24, 25, 26, 27, 28, 29, 30, 31, 32, 33, 34] (by decide +kernel) (by decide +kernel)
set_option maxRecDepth 20000 in
theorem gX0_gather_X1_joinsThere : GoodIn wsX0_gather (wsV RX0 75 RX1 yX1_joinsThere wsX1_joinsThere) := goodIn_app (goodIn_of _ (by decide +kernel)) ggX0_gather_X1_joinsThere
theorem dX0_gather_0 : decode cX0_gather 0 = .ok (.aload_n 0, 1) := by decide +kernel
theorem dX0_gather_1 : decode cX0_gather 1 = .ok (.iconst 0, 1) := by decide +kernel
theorem dX0_gather_2 : decode cX0_gather 2 = .ok (.putfield 27, 3) := by decide +kernel
theorem dX0_gather_5 : decode cX0_gather 5 = .ok (.iconst 0, 1) := by decide +kernel
theorem dX0_gather_6 : decode cX0_gather 6 = .ok (.istore_n 1, 1) := by decide +kernel
theorem dX0_gather_7 : decode cX0_gather 7 = .ok (.iload_n 1, 1) := by decide +kernel
theorem dX0_gather_8 : decode cX0_gather 8 = .ok (.aload_n 0, 1) := by decide +kernel
theorem dX0_gather_9 : decode cX0_gather 9 = .ok (.getfield 40, 3) := by decide +kernel
theorem dX0_gather_12 : decode cX0_gather 12 = .ok (.getfield 69, 3) := by decide +kernel
theorem dX0_gather_15 : decode cX0_gather 15 = .ok (.if_icmp .ge 64, 3) := by decide +kernel
theorem dX0_gather_18 : decode cX0_gather 18 = .ok (.aload_n 0, 1) := by decide +kernel
theorem dX0_gather_19 : decode cX0_gather 19 = .ok (.getfield 40, 3) := by decide +kernel
theorem dX0_gather_22 : decode cX0_gather 22 = .ok (.getfield 72, 3) := by decide +kernel
theorem dX0_gather_25 : decode cX0_gather 25 = .ok (.iload_n 1, 1) := by decide +kernel
theorem dX0_gather_26 : decode cX0_gather 26 = .ok (.iaload, 1) := by decide +kernel
theorem dX0_gather_27 : decode cX0_gather 27 = .ok (.iconst 2, 1) := by decide +kernel
theorem dX0_gather_28 : decode cX0_gather 28 = .ok (.if_icmp .ne 45, 3) := by decide +kernel
theorem dX0_gather_31 : decode cX0_gather 31 = .ok (.aload_n 0, 1) := by decide +kernel
theorem dX0_gather_32 : decode cX0_gather 32 = .ok (.getfield 40, 3) := by decide +kernel
theorem dX0_gather_35 : decode cX0_gather 35 = .ok (.iload_n 1, 1) := by decide +kernel
theorem dX0_gather_36 : decode cX0_gather 36 = .ok (.invokevirtual 75, 3) := by decide +kernel
theorem dX0_gather_39 : decode cX0_gather 39 = .ok (.ifCond .eq 34, 3) := by decide +kernel
theorem dX0_gather_42 : decode cX0_gather 42 = .ok (.aload_n 0, 1) := by decide +kernel
theorem dX0_gather_43 : decode cX0_gather 43 = .ok (.getfield 27, 3) := by decide +kernel
theorem dX0_gather_46 : decode cX0_gather 46 = .ok (.bipush 10, 2) := by decide +kernel
theorem dX0_gather_48 : decode cX0_gather 48 = .ok (.if_icmp .lt 5, 3) := by decide +kernel
theorem dX0_gather_51 : decode cX0_gather 51 = .ok (.iconst 0, 1) := by decide +kernel
theorem dX0_gather_52 : decode cX0_gather 52 = .ok (.ireturn, 1) := by decide +kernel
theorem dX0_gather_53 : decode cX0_gather 53 = .ok (.aload_n 0, 1) := by decide +kernel
theorem dX0_gather_54 : decode cX0_gather 54 = .ok (.getfield 9, 3) := by decide +kernel
theorem dX0_gather_57 : decode cX0_gather 57 = .ok (.aload_n 0, 1) := by decide +kernel
theorem dX0_gather_58 : decode cX0_gather 58 = .ok (.getfield 27, 3) := by decide +kernel
theorem dX0_gather_61 : decode cX0_gather 61 = .ok (.iload_n 1, 1) := by decide +kernel
theorem dX0_gather_62 : decode cX0_gather 62 = .ok (.iastore, 1) := by decide +kernel
theorem dX0_gather_63 : decode cX0_gather 63 = .ok (.aload_n 0, 1) := by decide +kernel
theorem dX0_gather_64 : decode cX0_gather 64 = .ok (.dup, 1) := by decide +kernel
theorem dX0_gather_65 : decode cX0_gather 65 = .ok (.getfield 27, 3) := by decide +kernel
theorem dX0_gather_68 : decode cX0_gather 68 = .ok (.iconst 1, 1) := by decide +kernel
theorem dX0_gather_69 : decode cX0_gather 69 = .ok (.iadd, 1) := by decide +kernel
theorem dX0_gather_70 : decode cX0_gather 70 = .ok (.putfield 27, 3) := by decide +kernel
theorem dX0_gather_73 : decode cX0_gather 73 = .ok (.iinc 1 1, 3) := by decide +kernel
theorem dX0_gather_76 : decode cX0_gather 76 = .ok (.goto (-69), 3) := by decide +kernel
theorem dX0_gather_79 : decode cX0_gather 79 = .ok (.iconst 1, 1) := by decide +kernel
theorem dX0_gather_80 : decode cX0_gather 80 = .ok (.ireturn, 1) := by decide +kernel
set_option maxRecDepth 20000 in
theorem ggX0_decide_X4_sum : GoodIn wsX0_decide wsX4_sum := goodIn_r _ [16, 17, 18, 19, 20, 21, 15, 22, 23, 24, 25, 26, 27, 28, 29, 30, 31, 32, 33, 34, 35, 36, 37, 38, 39, 40, 41, 42, 104, 105, 106, 107, 108, 109, 110, 111, 92, 93, 94, 95, 96, 97, 98, 99, 100, 101, 102, 103] (by decide +kernel) (by decide +kernel)
set_option maxRecDepth 20000 in
theorem gX0_decide_X4_sum : GoodIn wsX0_decide (wsV RX0 79 RX4 yX4_sum wsX4_sum) := goodIn_app (goodIn_of _ (by decide +kernel)) ggX0_decide_X4_sum
set_option maxRecDepth 20000 in
theorem ggX0_decide_X0_weigh : GoodIn wsX0_decide wsX0_weigh := goodIn_r _ [47, 48, 49, 50, 1, 51, 5, 11, 4, 83, 84, 85, 86, 87, 88, 89, 90, 91, 92, 93, 94, 95, 96, 97, 98, 99, 100, 101, 102, 103] (by decide +kernel) (by decide +kernel)
set_option maxRecDepth 20000 in
theorem gX0_decide_X0_weigh : GoodIn wsX0_decide (wsV RX0 85 RX0 yX0_weigh wsX0_weigh) := goodIn_app (goodIn_of _ (by decide +kernel)) ggX0_decide_X0_weigh
set_option maxRecDepth 20000 in
theorem ggX0_decide_X1_isObeyed : GoodIn wsX0_decide wsX1_isObeyed := goodIn_r _ [56, 57, 58, 59, 92, 93, 94, 95, 96, 97, 98, 99, 100, 101, 102, 103] (by decide +kernel) (by decide +kernel)
set_option maxRecDepth 20000 in
theorem gX0_decide_X1_isObeyed : GoodIn wsX0_decide (wsV RX0 98 RX1 yX1_isObeyed wsX1_isObeyed) := goodIn_app (goodIn_of _ (by decide +kernel)) ggX0_decide_X1_isObeyed
set_option maxRecDepth 20000 in
theorem ggX0_decide_X1_settle : GoodIn wsX0_decide wsX1_settle := goodIn_r _ [63, 64, 65, 66, 67, 55, 68, 69, 57, 58, 59, 70, 53, 54, 56, 71, 72, 73, 74, 75, 76, 77, 78, 79, 80, 92, 93, 94, 95, 96, 97, 98, 99, 100, 101, 102, 103] (by decide +kernel) (by decide +kernel)
set_option maxRecDepth 20000 in
theorem gX0_decide_X1_settle : GoodIn wsX0_decide (wsV RX0 61 RX1 yX1_settle wsX1_settle) := goodIn_app (goodIn_of _ (by decide +kernel)) ggX0_decide_X1_settle
set_option maxRecDepth 20000 in
theorem ggX0_decide_X0_decide : GoodIn wsX0_decide wsX0_decide := goodIn_r _ [0, 1, 2, 3, 4, 5, 6, 7, 8, 9, 10, 11, 12, 13, 14, 15, 16, 17, 18, 19, 20, 21, 22, 23, 24, 25, 26, 27, 28, 29, 30, 31, 32, 33, 34, 35, 36, 37, 38, 39, 40, 41, 42, 43, 44, 45, 46, 47, 48, 49, 50, 51, 52, 53, 54, 55, 56, 57, 58, 59, 60, 61, 62, 63, 64, 65, 66, 67, 68, 69, 70, 71, 72, 73, 74, 75, 76, 77, 78, 79, 80, 81, 82, 83, 84, 85, 86, 87, 88, 89, 90, 91, 92, 93, 94, 95, 96, 97, 98, 99, 100, 101, 102, 103, 104, 105, 106, 107, 108, 109, 110, 111] (by decide +kernel) (by decide +kernel)
set_option maxRecDepth 20000 in
theorem gX0_decide_X0_decide : GoodIn wsX0_decide (va_wsS RX0 65 yX0_decide wsX0_decide) := goodIn_app (goodIn_of _ (by decide +kernel)) ggX0_decide_X0_decide
theorem dX0_decide_0 : decode cX0_decide 0 = .ok (.iload_n 1, 1) := by decide +kernel
theorem dX0_decide_1 : decode cX0_decide 1 = .ok (.aload_n 0, 1) := by decide +kernel
theorem dX0_decide_2 : decode cX0_decide 2 = .ok (.getfield 27, 3) := by decide +kernel
theorem dX0_decide_5 : decode cX0_decide 5 = .ok (.if_icmp .ge 9, 3) := by decide +kernel
theorem dX0_decide_8 : decode cX0_decide 8 = .ok (.iload_n 1, 1) := by decide +kernel
theorem dX0_decide_9 : decode cX0_decide 9 = .ok (.bipush 10, 2) := by decide +kernel
theorem dX0_decide_11 : decode cX0_decide 11 = .ok (.if_icmp .lt 22, 3) := by decide +kernel
theorem dX0_decide_14 : decode cX0_decide 14 = .ok (.aload_n 0, 1) := by decide +kernel
theorem dX0_decide_15 : decode cX0_decide 15 = .ok (.aload_n 0, 1) := by decide +kernel
theorem dX0_decide_16 : decode cX0_decide 16 = .ok (.getfield 44, 3) := by decide +kernel
theorem dX0_decide_19 : decode cX0_decide 19 = .ok (.aload_n 0, 1) := by decide +kernel
theorem dX0_decide_20 : decode cX0_decide 20 = .ok (.getfield 24, 3) := by decide +kernel
theorem dX0_decide_23 : decode cX0_decide 23 = .ok (.iload_n 1, 1) := by decide +kernel
theorem dX0_decide_24 : decode cX0_decide 24 = .ok (.aaload, 1) := by decide +kernel
theorem dX0_decide_25 : decode cX0_decide 25 = .ok (.invokevirtual 79, 3) := by decide +kernel
theorem dX0_decide_28 : decode cX0_decide 28 = .ok (.iload_n 2, 1) := by decide +kernel
theorem dX0_decide_29 : decode cX0_decide 29 = .ok (.invokevirtual 85, 3) := by decide +kernel
theorem dX0_decide_32 : decode cX0_decide 32 = .ok (.return_, 1) := by decide +kernel
theorem dX0_decide_33 : decode cX0_decide 33 = .ok (.aload_n 0, 1) := by decide +kernel
theorem dX0_decide_34 : decode cX0_decide 34 = .ok (.getfield 9, 3) := by decide +kernel
theorem dX0_decide_37 : decode cX0_decide 37 = .ok (.iload_n 1, 1) := by decide +kernel
theorem dX0_decide_38 : decode cX0_decide 38 = .ok (.iaload, 1) := by decide +kernel
theorem dX0_decide_39 : decode cX0_decide 39 = .ok (.istore_n 3, 1) := by decide +kernel
theorem dX0_decide_40 : decode cX0_decide 40 = .ok (.aload_n 0, 1) := by decide +kernel
theorem dX0_decide_41 : decode cX0_decide 41 = .ok (.getfield 24, 3) := by decide +kernel
theorem dX0_decide_44 : decode cX0_decide 44 = .ok (.iload_n 1, 1) := by decide +kernel
theorem dX0_decide_45 : decode cX0_decide 45 = .ok (.aaload, 1) := by decide +kernel
theorem dX0_decide_46 : decode cX0_decide 46 = .ok (.iconst 0, 1) := by decide +kernel
theorem dX0_decide_47 : decode cX0_decide 47 = .ok (.aload_n 0, 1) := by decide +kernel
theorem dX0_decide_48 : decode cX0_decide 48 = .ok (.getfield 24, 3) := by decide +kernel
theorem dX0_decide_51 : decode cX0_decide 51 = .ok (.iload_n 1, 1) := by decide +kernel
theorem dX0_decide_52 : decode cX0_decide 52 = .ok (.iconst 1, 1) := by decide +kernel
theorem dX0_decide_53 : decode cX0_decide 53 = .ok (.iadd, 1) := by decide +kernel
theorem dX0_decide_54 : decode cX0_decide 54 = .ok (.aaload, 1) := by decide +kernel
theorem dX0_decide_55 : decode cX0_decide 55 = .ok (.iconst 0, 1) := by decide +kernel
theorem dX0_decide_56 : decode cX0_decide 56 = .ok (.aload_n 0, 1) := by decide +kernel
theorem dX0_decide_57 : decode cX0_decide 57 = .ok (.getfield 40, 3) := by decide +kernel
theorem dX0_decide_60 : decode cX0_decide 60 = .ok (.getfield 89, 3) := by decide +kernel
theorem dX0_decide_63 : decode cX0_decide 63 = .ok (.invokestatic 92, 3) := by decide +kernel
theorem dX0_decide_66 : decode cX0_decide 66 = .ok (.aload_n 0, 1) := by decide +kernel
theorem dX0_decide_67 : decode cX0_decide 67 = .ok (.getfield 40, 3) := by decide +kernel
theorem dX0_decide_70 : decode cX0_decide 70 = .ok (.getfield 52, 3) := by decide +kernel
theorem dX0_decide_73 : decode cX0_decide 73 = .ok (.iload_n 3, 1) := by decide +kernel
theorem dX0_decide_74 : decode cX0_decide 74 = .ok (.iconst 1, 1) := by decide +kernel
theorem dX0_decide_75 : decode cX0_decide 75 = .ok (.bastore, 1) := by decide +kernel
theorem dX0_decide_76 : decode cX0_decide 76 = .ok (.aload_n 0, 1) := by decide +kernel
theorem dX0_decide_77 : decode cX0_decide 77 = .ok (.getfield 40, 3) := by decide +kernel
theorem dX0_decide_80 : decode cX0_decide 80 = .ok (.iload_n 3, 1) := by decide +kernel
theorem dX0_decide_81 : decode cX0_decide 81 = .ok (.aload_n 0, 1) := by decide +kernel
theorem dX0_decide_82 : decode cX0_decide 82 = .ok (.getfield 24, 3) := by decide +kernel
theorem dX0_decide_85 : decode cX0_decide 85 = .ok (.iload_n 1, 1) := by decide +kernel
theorem dX0_decide_86 : decode cX0_decide 86 = .ok (.iconst 1, 1) := by decide +kernel
theorem dX0_decide_87 : decode cX0_decide 87 = .ok (.iadd, 1) := by decide +kernel
theorem dX0_decide_88 : decode cX0_decide 88 = .ok (.aaload, 1) := by decide +kernel
theorem dX0_decide_89 : decode cX0_decide 89 = .ok (.invokevirtual 98, 3) := by decide +kernel
theorem dX0_decide_92 : decode cX0_decide 92 = .ok (.ifCond .ne 21, 3) := by decide +kernel
theorem dX0_decide_95 : decode cX0_decide 95 = .ok (.aload_n 0, 1) := by decide +kernel
theorem dX0_decide_96 : decode cX0_decide 96 = .ok (.getfield 40, 3) := by decide +kernel
theorem dX0_decide_99 : decode cX0_decide 99 = .ok (.aload_n 0, 1) := by decide +kernel
theorem dX0_decide_100 : decode cX0_decide 100 = .ok (.getfield 24, 3) := by decide +kernel
theorem dX0_decide_103 : decode cX0_decide 103 = .ok (.iload_n 1, 1) := by decide +kernel
theorem dX0_decide_104 : decode cX0_decide 104 = .ok (.iconst 1, 1) := by decide +kernel
theorem dX0_decide_105 : decode cX0_decide 105 = .ok (.iadd, 1) := by decide +kernel
theorem dX0_decide_106 : decode cX0_decide 106 = .ok (.aaload, 1) := by decide +kernel
theorem dX0_decide_107 : decode cX0_decide 107 = .ok (.invokevirtual 61, 3) := by decide +kernel
theorem dX0_decide_110 : decode cX0_decide 110 = .ok (.ifCond .eq 13, 3) := by decide +kernel
theorem dX0_decide_113 : decode cX0_decide 113 = .ok (.aload_n 0, 1) := by decide +kernel
theorem dX0_decide_114 : decode cX0_decide 114 = .ok (.iload_n 1, 1) := by decide +kernel
theorem dX0_decide_115 : decode cX0_decide 115 = .ok (.iconst 1, 1) := by decide +kernel
theorem dX0_decide_116 : decode cX0_decide 116 = .ok (.iadd, 1) := by decide +kernel
theorem dX0_decide_117 : decode cX0_decide 117 = .ok (.iload_n 2, 1) := by decide +kernel
theorem dX0_decide_118 : decode cX0_decide 118 = .ok (.iconst 1, 1) := by decide +kernel
theorem dX0_decide_119 : decode cX0_decide 119 = .ok (.iadd, 1) := by decide +kernel
theorem dX0_decide_120 : decode cX0_decide 120 = .ok (.invokestatic 65, 3) := by decide +kernel
theorem dX0_decide_123 : decode cX0_decide 123 = .ok (.aload_n 0, 1) := by decide +kernel
theorem dX0_decide_124 : decode cX0_decide 124 = .ok (.getfield 24, 3) := by decide +kernel
theorem dX0_decide_127 : decode cX0_decide 127 = .ok (.iload_n 1, 1) := by decide +kernel
theorem dX0_decide_128 : decode cX0_decide 128 = .ok (.aaload, 1) := by decide +kernel
theorem dX0_decide_129 : decode cX0_decide 129 = .ok (.iconst 0, 1) := by decide +kernel
theorem dX0_decide_130 : decode cX0_decide 130 = .ok (.aload_n 0, 1) := by decide +kernel
theorem dX0_decide_131 : decode cX0_decide 131 = .ok (.getfield 24, 3) := by decide +kernel
theorem dX0_decide_134 : decode cX0_decide 134 = .ok (.iload_n 1, 1) := by decide +kernel
theorem dX0_decide_135 : decode cX0_decide 135 = .ok (.iconst 1, 1) := by decide +kernel
theorem dX0_decide_136 : decode cX0_decide 136 = .ok (.iadd, 1) := by decide +kernel
theorem dX0_decide_137 : decode cX0_decide 137 = .ok (.aaload, 1) := by decide +kernel
theorem dX0_decide_138 : decode cX0_decide 138 = .ok (.iconst 0, 1) := by decide +kernel
theorem dX0_decide_139 : decode cX0_decide 139 = .ok (.aload_n 0, 1) := by decide +kernel
theorem dX0_decide_140 : decode cX0_decide 140 = .ok (.getfield 40, 3) := by decide +kernel
theorem dX0_decide_143 : decode cX0_decide 143 = .ok (.getfield 89, 3) := by decide +kernel
theorem dX0_decide_146 : decode cX0_decide 146 = .ok (.invokestatic 92, 3) := by decide +kernel
theorem dX0_decide_149 : decode cX0_decide 149 = .ok (.aload_n 0, 1) := by decide +kernel
theorem dX0_decide_150 : decode cX0_decide 150 = .ok (.getfield 40, 3) := by decide +kernel
theorem dX0_decide_153 : decode cX0_decide 153 = .ok (.getfield 52, 3) := by decide +kernel
theorem dX0_decide_156 : decode cX0_decide 156 = .ok (.iload_n 3, 1) := by decide +kernel
theorem dX0_decide_157 : decode cX0_decide 157 = .ok (.iconst 0, 1) := by decide +kernel
theorem dX0_decide_158 : decode cX0_decide 158 = .ok (.bastore, 1) := by decide +kernel
theorem dX0_decide_159 : decode cX0_decide 159 = .ok (.aload_n 0, 1) := by decide +kernel
theorem dX0_decide_160 : decode cX0_decide 160 = .ok (.iload_n 1, 1) := by decide +kernel
theorem dX0_decide_161 : decode cX0_decide 161 = .ok (.iconst 1, 1) := by decide +kernel
theorem dX0_decide_162 : decode cX0_decide 162 = .ok (.iadd, 1) := by decide +kernel
theorem dX0_decide_163 : decode cX0_decide 163 = .ok (.iload_n 2, 1) := by decide +kernel
theorem dX0_decide_164 : decode cX0_decide 164 = .ok (.invokestatic 65, 3) := by decide +kernel
theorem dX0_decide_167 : decode cX0_decide 167 = .ok (.return_, 1) := by decide +kernel
theorem dX0_weigh_0 : decode cX0_weigh 0 = .ok (.aload_n 0, 1) := by decide +kernel
theorem dX0_weigh_1 : decode cX0_weigh 1 = .ok (.getfield 33, 3) := by decide +kernel
theorem dX0_weigh_4 : decode cX0_weigh 4 = .ok (.ldc2_w 31, 3) := by decide +kernel
theorem dX0_weigh_7 : decode cX0_weigh 7 = .ok (.lcmp, 1) := by decide +kernel
theorem dX0_weigh_8 : decode cX0_weigh 8 = .ok (.ifCond .eq 29, 3) := by decide +kernel
theorem dX0_weigh_11 : decode cX0_weigh 11 = .ok (.lload_n 1, 1) := by decide +kernel
theorem dX0_weigh_12 : decode cX0_weigh 12 = .ok (.aload_n 0, 1) := by decide +kernel
theorem dX0_weigh_13 : decode cX0_weigh 13 = .ok (.getfield 33, 3) := by decide +kernel
theorem dX0_weigh_16 : decode cX0_weigh 16 = .ok (.lcmp, 1) := by decide +kernel
theorem dX0_weigh_17 : decode cX0_weigh 17 = .ok (.ifCond .lt 20, 3) := by decide +kernel
theorem dX0_weigh_20 : decode cX0_weigh 20 = .ok (.lload_n 1, 1) := by decide +kernel
theorem dX0_weigh_21 : decode cX0_weigh 21 = .ok (.aload_n 0, 1) := by decide +kernel
theorem dX0_weigh_22 : decode cX0_weigh 22 = .ok (.getfield 33, 3) := by decide +kernel
theorem dX0_weigh_25 : decode cX0_weigh 25 = .ok (.lcmp, 1) := by decide +kernel
theorem dX0_weigh_26 : decode cX0_weigh 26 = .ok (.ifCond .ne 61, 3) := by decide +kernel
theorem dX0_weigh_29 : decode cX0_weigh 29 = .ok (.iload_n 3, 1) := by decide +kernel
theorem dX0_weigh_30 : decode cX0_weigh 30 = .ok (.aload_n 0, 1) := by decide +kernel
theorem dX0_weigh_31 : decode cX0_weigh 31 = .ok (.getfield 37, 3) := by decide +kernel
theorem dX0_weigh_34 : decode cX0_weigh 34 = .ok (.if_icmp .ge 53, 3) := by decide +kernel
theorem dX0_weigh_37 : decode cX0_weigh 37 = .ok (.aload_n 0, 1) := by decide +kernel
theorem dX0_weigh_38 : decode cX0_weigh 38 = .ok (.lload_n 1, 1) := by decide +kernel
theorem dX0_weigh_39 : decode cX0_weigh 39 = .ok (.putfield 33, 3) := by decide +kernel
theorem dX0_weigh_42 : decode cX0_weigh 42 = .ok (.aload_n 0, 1) := by decide +kernel
theorem dX0_weigh_43 : decode cX0_weigh 43 = .ok (.iload_n 3, 1) := by decide +kernel
theorem dX0_weigh_44 : decode cX0_weigh 44 = .ok (.putfield 37, 3) := by decide +kernel
theorem dX0_weigh_47 : decode cX0_weigh 47 = .ok (.iconst 0, 1) := by decide +kernel
theorem dX0_weigh_48 : decode cX0_weigh 48 = .ok (.istore 4, 2) := by decide +kernel
theorem dX0_weigh_50 : decode cX0_weigh 50 = .ok (.iload 4, 2) := by decide +kernel
theorem dX0_weigh_52 : decode cX0_weigh 52 = .ok (.aload_n 0, 1) := by decide +kernel
theorem dX0_weigh_53 : decode cX0_weigh 53 = .ok (.getfield 27, 3) := by decide +kernel
theorem dX0_weigh_56 : decode cX0_weigh 56 = .ok (.if_icmp .ge 31, 3) := by decide +kernel
theorem dX0_weigh_59 : decode cX0_weigh 59 = .ok (.aload_n 0, 1) := by decide +kernel
theorem dX0_weigh_60 : decode cX0_weigh 60 = .ok (.getfield 19, 3) := by decide +kernel
theorem dX0_weigh_63 : decode cX0_weigh 63 = .ok (.iload 4, 2) := by decide +kernel
theorem dX0_weigh_65 : decode cX0_weigh 65 = .ok (.aload_n 0, 1) := by decide +kernel
theorem dX0_weigh_66 : decode cX0_weigh 66 = .ok (.getfield 40, 3) := by decide +kernel
theorem dX0_weigh_69 : decode cX0_weigh 69 = .ok (.getfield 52, 3) := by decide +kernel
theorem dX0_weigh_72 : decode cX0_weigh 72 = .ok (.aload_n 0, 1) := by decide +kernel
theorem dX0_weigh_73 : decode cX0_weigh 73 = .ok (.getfield 9, 3) := by decide +kernel
theorem dX0_weigh_76 : decode cX0_weigh 76 = .ok (.iload 4, 2) := by decide +kernel
theorem dX0_weigh_78 : decode cX0_weigh 78 = .ok (.iaload, 1) := by decide +kernel
theorem dX0_weigh_79 : decode cX0_weigh 79 = .ok (.baload, 1) := by decide +kernel
theorem dX0_weigh_80 : decode cX0_weigh 80 = .ok (.bastore, 1) := by decide +kernel
theorem dX0_weigh_81 : decode cX0_weigh 81 = .ok (.iinc 4 1, 3) := by decide +kernel
theorem dX0_weigh_84 : decode cX0_weigh 84 = .ok (.goto (-34), 3) := by decide +kernel
theorem dX0_weigh_87 : decode cX0_weigh 87 = .ok (.return_, 1) := by decide +kernel
theorem dX1_init_0 : decode cX1_init 0 = .ok (.aload_n 0, 1) := by decide +kernel
theorem dX1_init_1 : decode cX1_init 1 = .ok (.invokespecial 3, 3) := by decide +kernel
theorem dX1_init_4 : decode cX1_init 4 = .ok (.aload_n 0, 1) := by decide +kernel
theorem dX1_init_5 : decode cX1_init 5 = .ok (.bipush 60, 2) := by decide +kernel
theorem dX1_init_7 : decode cX1_init 7 = .ok (.newarray .int, 2) := by decide +kernel
theorem dX1_init_9 : decode cX1_init 9 = .ok (.putfield 9, 3) := by decide +kernel
theorem dX1_init_12 : decode cX1_init 12 = .ok (.aload_n 0, 1) := by decide +kernel
theorem dX1_init_13 : decode cX1_init 13 = .ok (.bipush 60, 2) := by decide +kernel
theorem dX1_init_15 : decode cX1_init 15 = .ok (.newarray .int, 2) := by decide +kernel
theorem dX1_init_17 : decode cX1_init 17 = .ok (.putfield 15, 3) := by decide +kernel
theorem dX1_init_20 : decode cX1_init 20 = .ok (.aload_n 0, 1) := by decide +kernel
theorem dX1_init_21 : decode cX1_init 21 = .ok (.bipush 60, 2) := by decide +kernel
theorem dX1_init_23 : decode cX1_init 23 = .ok (.newarray .int, 2) := by decide +kernel
theorem dX1_init_25 : decode cX1_init 25 = .ok (.putfield 18, 3) := by decide +kernel
theorem dX1_init_28 : decode cX1_init 28 = .ok (.aload_n 0, 1) := by decide +kernel
theorem dX1_init_29 : decode cX1_init 29 = .ok (.bipush 60, 2) := by decide +kernel
theorem dX1_init_31 : decode cX1_init 31 = .ok (.newarray .boolean, 2) := by decide +kernel
theorem dX1_init_33 : decode cX1_init 33 = .ok (.putfield 21, 3) := by decide +kernel
theorem dX1_init_36 : decode cX1_init 36 = .ok (.aload_n 0, 1) := by decide +kernel
theorem dX1_init_37 : decode cX1_init 37 = .ok (.bipush 100, 2) := by decide +kernel
theorem dX1_init_39 : decode cX1_init 39 = .ok (.newarray .int, 2) := by decide +kernel
theorem dX1_init_41 : decode cX1_init 41 = .ok (.putfield 25, 3) := by decide +kernel
theorem dX1_init_44 : decode cX1_init 44 = .ok (.aload_n 0, 1) := by decide +kernel
theorem dX1_init_45 : decode cX1_init 45 = .ok (.bipush 100, 2) := by decide +kernel
theorem dX1_init_47 : decode cX1_init 47 = .ok (.newarray .int, 2) := by decide +kernel
theorem dX1_init_49 : decode cX1_init 49 = .ok (.putfield 28, 3) := by decide +kernel
theorem dX1_init_52 : decode cX1_init 52 = .ok (.aload_n 0, 1) := by decide +kernel
theorem dX1_init_53 : decode cX1_init 53 = .ok (.bipush 100, 2) := by decide +kernel
theorem dX1_init_55 : decode cX1_init 55 = .ok (.newarray .int, 2) := by decide +kernel
theorem dX1_init_57 : decode cX1_init 57 = .ok (.putfield 31, 3) := by decide +kernel
theorem dX1_init_60 : decode cX1_init 60 = .ok (.aload_n 0, 1) := by decide +kernel
theorem dX1_init_61 : decode cX1_init 61 = .ok (.bipush 100, 2) := by decide +kernel
theorem dX1_init_63 : decode cX1_init 63 = .ok (.newarray .int, 2) := by decide +kernel
theorem dX1_init_65 : decode cX1_init 65 = .ok (.putfield 34, 3) := by decide +kernel
theorem dX1_init_68 : decode cX1_init 68 = .ok (.aload_n 0, 1) := by decide +kernel
theorem dX1_init_69 : decode cX1_init 69 = .ok (.bipush 100, 2) := by decide +kernel
theorem dX1_init_71 : decode cX1_init 71 = .ok (.newarray .boolean, 2) := by decide +kernel
theorem dX1_init_73 : decode cX1_init 73 = .ok (.putfield 37, 3) := by decide +kernel
theorem dX1_init_76 : decode cX1_init 76 = .ok (.aload_n 0, 1) := by decide +kernel
theorem dX1_init_77 : decode cX1_init 77 = .ok (.bipush 16, 2) := by decide +kernel
theorem dX1_init_79 : decode cX1_init 79 = .ok (.newarray .boolean, 2) := by decide +kernel
theorem dX1_init_81 : decode cX1_init 81 = .ok (.putfield 40, 3) := by decide +kernel
theorem dX1_init_84 : decode cX1_init 84 = .ok (.aload_n 0, 1) := by decide +kernel
theorem dX1_init_85 : decode cX1_init 85 = .ok (.iconst 0, 1) := by decide +kernel
theorem dX1_init_86 : decode cX1_init 86 = .ok (.putfield 43, 3) := by decide +kernel
theorem dX1_init_89 : decode cX1_init 89 = .ok (.aload_n 0, 1) := by decide +kernel
theorem dX1_init_90 : decode cX1_init 90 = .ok (.iconst 0, 1) := by decide +kernel
theorem dX1_init_91 : decode cX1_init 91 = .ok (.putfield 47, 3) := by decide +kernel
theorem dX1_init_94 : decode cX1_init 94 = .ok (.return_, 1) := by decide +kernel
theorem dX1_addEvent_0 : decode cX1_addEvent 0 = .ok (.aload_n 0, 1) := by decide +kernel
theorem dX1_addEvent_1 : decode cX1_addEvent 1 = .ok (.getfield 9, 3) := by decide +kernel
theorem dX1_addEvent_4 : decode cX1_addEvent 4 = .ok (.aload_n 0, 1) := by decide +kernel
theorem dX1_addEvent_5 : decode cX1_addEvent 5 = .ok (.getfield 43, 3) := by decide +kernel
theorem dX1_addEvent_8 : decode cX1_addEvent 8 = .ok (.iload_n 1, 1) := by decide +kernel
theorem dX1_addEvent_9 : decode cX1_addEvent 9 = .ok (.iastore, 1) := by decide +kernel
theorem dX1_addEvent_10 : decode cX1_addEvent 10 = .ok (.aload_n 0, 1) := by decide +kernel
theorem dX1_addEvent_11 : decode cX1_addEvent 11 = .ok (.getfield 15, 3) := by decide +kernel
theorem dX1_addEvent_14 : decode cX1_addEvent 14 = .ok (.aload_n 0, 1) := by decide +kernel
theorem dX1_addEvent_15 : decode cX1_addEvent 15 = .ok (.getfield 43, 3) := by decide +kernel
theorem dX1_addEvent_18 : decode cX1_addEvent 18 = .ok (.iload_n 2, 1) := by decide +kernel
theorem dX1_addEvent_19 : decode cX1_addEvent 19 = .ok (.iastore, 1) := by decide +kernel
theorem dX1_addEvent_20 : decode cX1_addEvent 20 = .ok (.aload_n 0, 1) := by decide +kernel
theorem dX1_addEvent_21 : decode cX1_addEvent 21 = .ok (.getfield 18, 3) := by decide +kernel
theorem dX1_addEvent_24 : decode cX1_addEvent 24 = .ok (.aload_n 0, 1) := by decide +kernel
theorem dX1_addEvent_25 : decode cX1_addEvent 25 = .ok (.getfield 43, 3) := by decide +kernel
theorem dX1_addEvent_28 : decode cX1_addEvent 28 = .ok (.iconst 0, 1) := by decide +kernel
theorem dX1_addEvent_29 : decode cX1_addEvent 29 = .ok (.iastore, 1) := by decide +kernel
theorem dX1_addEvent_30 : decode cX1_addEvent 30 = .ok (.aload_n 0, 1) := by decide +kernel
theorem dX1_addEvent_31 : decode cX1_addEvent 31 = .ok (.getfield 21, 3) := by decide +kernel
theorem dX1_addEvent_34 : decode cX1_addEvent 34 = .ok (.aload_n 0, 1) := by decide +kernel
theorem dX1_addEvent_35 : decode cX1_addEvent 35 = .ok (.getfield 43, 3) := by decide +kernel
theorem dX1_addEvent_38 : decode cX1_addEvent 38 = .ok (.aload_n 0, 1) := by decide +kernel
theorem dX1_addEvent_39 : decode cX1_addEvent 39 = .ok (.getfield 40, 3) := by decide +kernel
theorem dX1_addEvent_42 : decode cX1_addEvent 42 = .ok (.iload_n 1, 1) := by decide +kernel
theorem dX1_addEvent_43 : decode cX1_addEvent 43 = .ok (.baload, 1) := by decide +kernel
theorem dX1_addEvent_44 : decode cX1_addEvent 44 = .ok (.ifCond .ne 7, 3) := by decide +kernel
theorem dX1_addEvent_47 : decode cX1_addEvent 47 = .ok (.iconst 1, 1) := by decide +kernel
theorem dX1_addEvent_48 : decode cX1_addEvent 48 = .ok (.goto 4, 3) := by decide +kernel
theorem dX1_addEvent_51 : decode cX1_addEvent 51 = .ok (.iconst 0, 1) := by decide +kernel
theorem dX1_addEvent_52 : decode cX1_addEvent 52 = .ok (.bastore, 1) := by decide +kernel
theorem dX1_addEvent_53 : decode cX1_addEvent 53 = .ok (.aload_n 0, 1) := by decide +kernel
theorem dX1_addEvent_54 : decode cX1_addEvent 54 = .ok (.dup, 1) := by decide +kernel
theorem dX1_addEvent_55 : decode cX1_addEvent 55 = .ok (.getfield 43, 3) := by decide +kernel
theorem dX1_addEvent_58 : decode cX1_addEvent 58 = .ok (.iconst 1, 1) := by decide +kernel
theorem dX1_addEvent_59 : decode cX1_addEvent 59 = .ok (.iadd, 1) := by decide +kernel
theorem dX1_addEvent_60 : decode cX1_addEvent 60 = .ok (.putfield 43, 3) := by decide +kernel
theorem dX1_addEvent_63 : decode cX1_addEvent 63 = .ok (.aload_n 0, 1) := by decide +kernel
theorem dX1_addEvent_64 : decode cX1_addEvent 64 = .ok (.getfield 43, 3) := by decide +kernel
theorem dX1_addEvent_67 : decode cX1_addEvent 67 = .ok (.iconst 1, 1) := by decide +kernel
theorem dX1_addEvent_68 : decode cX1_addEvent 68 = .ok (.isub, 1) := by decide +kernel
theorem dX1_addEvent_69 : decode cX1_addEvent 69 = .ok (.ireturn, 1) := by decide +kernel
theorem dX1_addActivity_0 : decode cX1_addActivity 0 = .ok (.aload_n 0, 1) := by decide +kernel
theorem dX1_addActivity_1 : decode cX1_addActivity 1 = .ok (.getfield 25, 3) := by decide +kernel
theorem dX1_addActivity_4 : decode cX1_addActivity 4 = .ok (.aload_n 0, 1) := by decide +kernel
theorem dX1_addActivity_5 : decode cX1_addActivity 5 = .ok (.getfield 47, 3) := by decide +kernel
theorem dX1_addActivity_8 : decode cX1_addActivity 8 = .ok (.iload_n 1, 1) := by decide +kernel
theorem dX1_addActivity_9 : decode cX1_addActivity 9 = .ok (.iastore, 1) := by decide +kernel
theorem dX1_addActivity_10 : decode cX1_addActivity 10 = .ok (.aload_n 0, 1) := by decide +kernel
theorem dX1_addActivity_11 : decode cX1_addActivity 11 = .ok (.getfield 28, 3) := by decide +kernel
theorem dX1_addActivity_14 : decode cX1_addActivity 14 = .ok (.aload_n 0, 1) := by decide +kernel
theorem dX1_addActivity_15 : decode cX1_addActivity 15 = .ok (.getfield 47, 3) := by decide +kernel
theorem dX1_addActivity_18 : decode cX1_addActivity 18 = .ok (.iload_n 2, 1) := by decide +kernel
theorem dX1_addActivity_19 : decode cX1_addActivity 19 = .ok (.iastore, 1) := by decide +kernel
theorem dX1_addActivity_20 : decode cX1_addActivity 20 = .ok (.aload_n 0, 1) := by decide +kernel
theorem dX1_addActivity_21 : decode cX1_addActivity 21 = .ok (.getfield 31, 3) := by decide +kernel
theorem dX1_addActivity_24 : decode cX1_addActivity 24 = .ok (.aload_n 0, 1) := by decide +kernel
theorem dX1_addActivity_25 : decode cX1_addActivity 25 = .ok (.getfield 47, 3) := by decide +kernel
theorem dX1_addActivity_28 : decode cX1_addActivity 28 = .ok (.iload_n 3, 1) := by decide +kernel
theorem dX1_addActivity_29 : decode cX1_addActivity 29 = .ok (.iastore, 1) := by decide +kernel
theorem dX1_addActivity_30 : decode cX1_addActivity 30 = .ok (.aload_n 0, 1) := by decide +kernel
theorem dX1_addActivity_31 : decode cX1_addActivity 31 = .ok (.getfield 34, 3) := by decide +kernel
theorem dX1_addActivity_34 : decode cX1_addActivity 34 = .ok (.aload_n 0, 1) := by decide +kernel
theorem dX1_addActivity_35 : decode cX1_addActivity 35 = .ok (.getfield 47, 3) := by decide +kernel
theorem dX1_addActivity_38 : decode cX1_addActivity 38 = .ok (.iload 4, 2) := by decide +kernel
theorem dX1_addActivity_40 : decode cX1_addActivity 40 = .ok (.iastore, 1) := by decide +kernel
theorem dX1_addActivity_41 : decode cX1_addActivity 41 = .ok (.aload_n 0, 1) := by decide +kernel
theorem dX1_addActivity_42 : decode cX1_addActivity 42 = .ok (.getfield 37, 3) := by decide +kernel
theorem dX1_addActivity_45 : decode cX1_addActivity 45 = .ok (.aload_n 0, 1) := by decide +kernel
theorem dX1_addActivity_46 : decode cX1_addActivity 46 = .ok (.getfield 47, 3) := by decide +kernel
theorem dX1_addActivity_49 : decode cX1_addActivity 49 = .ok (.iconst 1, 1) := by decide +kernel
theorem dX1_addActivity_50 : decode cX1_addActivity 50 = .ok (.bastore, 1) := by decide +kernel
theorem dX1_addActivity_51 : decode cX1_addActivity 51 = .ok (.aload_n 0, 1) := by decide +kernel
theorem dX1_addActivity_52 : decode cX1_addActivity 52 = .ok (.dup, 1) := by decide +kernel
theorem dX1_addActivity_53 : decode cX1_addActivity 53 = .ok (.getfield 47, 3) := by decide +kernel
theorem dX1_addActivity_56 : decode cX1_addActivity 56 = .ok (.iconst 1, 1) := by decide +kernel
theorem dX1_addActivity_57 : decode cX1_addActivity 57 = .ok (.iadd, 1) := by decide +kernel
theorem dX1_addActivity_58 : decode cX1_addActivity 58 = .ok (.putfield 47, 3) := by decide +kernel
theorem dX1_addActivity_61 : decode cX1_addActivity 61 = .ok (.aload_n 0, 1) := by decide +kernel
theorem dX1_addActivity_62 : decode cX1_addActivity 62 = .ok (.getfield 47, 3) := by decide +kernel
theorem dX1_addActivity_65 : decode cX1_addActivity 65 = .ok (.iconst 1, 1) := by decide +kernel
theorem dX1_addActivity_66 : decode cX1_addActivity 66 = .ok (.isub, 1) := by decide +kernel
theorem dX1_addActivity_67 : decode cX1_addActivity 67 = .ok (.ireturn, 1) := by decide +kernel
theorem dX1_hasEvent_0 : decode cX1_hasEvent 0 = .ok (.iload_n 1, 1) := by decide +kernel
theorem dX1_hasEvent_1 : decode cX1_hasEvent 1 = .ok (.ifCond .lt 15, 3) := by decide +kernel
theorem dX1_hasEvent_4 : decode cX1_hasEvent 4 = .ok (.iload_n 1, 1) := by decide +kernel
theorem dX1_hasEvent_5 : decode cX1_hasEvent 5 = .ok (.aload_n 0, 1) := by decide +kernel
theorem dX1_hasEvent_6 : decode cX1_hasEvent 6 = .ok (.getfield 43, 3) := by decide +kernel
theorem dX1_hasEvent_9 : decode cX1_hasEvent 9 = .ok (.if_icmp .ge 7, 3) := by decide +kernel
theorem dX1_hasEvent_12 : decode cX1_hasEvent 12 = .ok (.iconst 1, 1) := by decide +kernel
theorem dX1_hasEvent_13 : decode cX1_hasEvent 13 = .ok (.goto 4, 3) := by decide +kernel
theorem dX1_hasEvent_16 : decode cX1_hasEvent 16 = .ok (.iconst 0, 1) := by decide +kernel
theorem dX1_hasEvent_17 : decode cX1_hasEvent 17 = .ok (.ireturn, 1) := by decide +kernel
theorem dX1_hasActivity_0 : decode cX1_hasActivity 0 = .ok (.iload_n 1, 1) := by decide +kernel
theorem dX1_hasActivity_1 : decode cX1_hasActivity 1 = .ok (.ifCond .lt 15, 3) := by decide +kernel
theorem dX1_hasActivity_4 : decode cX1_hasActivity 4 = .ok (.iload_n 1, 1) := by decide +kernel
theorem dX1_hasActivity_5 : decode cX1_hasActivity 5 = .ok (.aload_n 0, 1) := by decide +kernel
theorem dX1_hasActivity_6 : decode cX1_hasActivity 6 = .ok (.getfield 47, 3) := by decide +kernel
theorem dX1_hasActivity_9 : decode cX1_hasActivity 9 = .ok (.if_icmp .ge 7, 3) := by decide +kernel
theorem dX1_hasActivity_12 : decode cX1_hasActivity 12 = .ok (.iconst 1, 1) := by decide +kernel
theorem dX1_hasActivity_13 : decode cX1_hasActivity 13 = .ok (.goto 4, 3) := by decide +kernel
theorem dX1_hasActivity_16 : decode cX1_hasActivity 16 = .ok (.iconst 0, 1) := by decide +kernel
theorem dX1_hasActivity_17 : decode cX1_hasActivity 17 = .ok (.ireturn, 1) := by decide +kernel
set_option maxRecDepth 20000 in
theorem ggX1_isOfKind_X1_hasActivity : GoodIn wsX1_isOfKind wsX1_hasActivity := goodIn_r _ [6, 7, 8, 9, 10, 11, 12, 13, 14, 15, 16, 17, 18, 19] (by decide +kernel) (by decide +kernel)
set_option maxRecDepth 20000 in
theorem gX1_isOfKind_X1_hasActivity : GoodIn wsX1_isOfKind (wsV RX1 50 RX1 yX1_hasActivity wsX1_hasActivity) := goodIn_app (goodIn_of _ (by decide +kernel)) ggX1_isOfKind_X1_hasActivity
theorem dX1_isOfKind_0 : decode cX1_isOfKind 0 = .ok (.aload_n 0, 1) := by decide +kernel
theorem dX1_isOfKind_1 : decode cX1_isOfKind 1 = .ok (.iload_n 1, 1) := by decide +kernel
theorem dX1_isOfKind_2 : decode cX1_isOfKind 2 = .ok (.invokevirtual 50, 3) := by decide +kernel
theorem dX1_isOfKind_5 : decode cX1_isOfKind 5 = .ok (.ifCond .eq 17, 3) := by decide +kernel
theorem dX1_isOfKind_8 : decode cX1_isOfKind 8 = .ok (.aload_n 0, 1) := by decide +kernel
theorem dX1_isOfKind_9 : decode cX1_isOfKind 9 = .ok (.getfield 25, 3) := by decide +kernel
theorem dX1_isOfKind_12 : decode cX1_isOfKind 12 = .ok (.iload_n 1, 1) := by decide +kernel
theorem dX1_isOfKind_13 : decode cX1_isOfKind 13 = .ok (.iaload, 1) := by decide +kernel
theorem dX1_isOfKind_14 : decode cX1_isOfKind 14 = .ok (.iload_n 2, 1) := by decide +kernel
theorem dX1_isOfKind_15 : decode cX1_isOfKind 15 = .ok (.if_icmp .ne 7, 3) := by decide +kernel
theorem dX1_isOfKind_18 : decode cX1_isOfKind 18 = .ok (.iconst 1, 1) := by decide +kernel
theorem dX1_isOfKind_19 : decode cX1_isOfKind 19 = .ok (.goto 4, 3) := by decide +kernel
theorem dX1_isOfKind_22 : decode cX1_isOfKind 22 = .ok (.iconst 0, 1) := by decide +kernel
theorem dX1_isOfKind_23 : decode cX1_isOfKind 23 = .ok (.ireturn, 1) := by decide +kernel
set_option maxRecDepth 20000 in
theorem ggX1_canJoin_X1_hasEvent : GoodIn wsX1_canJoin wsX1_hasEvent := goodIn_r _ [6, 7, 8, 9, 10, 11, 12, 13, 14, 15, 16, 17, 18, 19] (by decide +kernel) (by decide +kernel)
set_option maxRecDepth 20000 in
theorem gX1_canJoin_X1_hasEvent : GoodIn wsX1_canJoin (wsV RX1 54 RX1 yX1_hasEvent wsX1_hasEvent) := goodIn_app (goodIn_of _ (by decide +kernel)) ggX1_canJoin_X1_hasEvent
theorem dX1_canJoin_0 : decode cX1_canJoin 0 = .ok (.aload_n 0, 1) := by decide +kernel
theorem dX1_canJoin_1 : decode cX1_canJoin 1 = .ok (.iload_n 2, 1) := by decide +kernel
theorem dX1_canJoin_2 : decode cX1_canJoin 2 = .ok (.invokevirtual 54, 3) := by decide +kernel
theorem dX1_canJoin_5 : decode cX1_canJoin 5 = .ok (.ifCond .eq 16, 3) := by decide +kernel
theorem dX1_canJoin_8 : decode cX1_canJoin 8 = .ok (.aload_n 0, 1) := by decide +kernel
theorem dX1_canJoin_9 : decode cX1_canJoin 9 = .ok (.iload_n 3, 1) := by decide +kernel
theorem dX1_canJoin_10 : decode cX1_canJoin 10 = .ok (.invokevirtual 54, 3) := by decide +kernel
theorem dX1_canJoin_13 : decode cX1_canJoin 13 = .ok (.ifCond .eq 8, 3) := by decide +kernel
theorem dX1_canJoin_16 : decode cX1_canJoin 16 = .ok (.iload_n 2, 1) := by decide +kernel
theorem dX1_canJoin_17 : decode cX1_canJoin 17 = .ok (.iload_n 3, 1) := by decide +kernel
theorem dX1_canJoin_18 : decode cX1_canJoin 18 = .ok (.if_icmp .ne 5, 3) := by decide +kernel
theorem dX1_canJoin_21 : decode cX1_canJoin 21 = .ok (.iconst 0, 1) := by decide +kernel
theorem dX1_canJoin_22 : decode cX1_canJoin 22 = .ok (.ireturn, 1) := by decide +kernel
theorem dX1_canJoin_23 : decode cX1_canJoin 23 = .ok (.iload_n 1, 1) := by decide +kernel
theorem dX1_canJoin_24 : decode cX1_canJoin 24 = .ok (.ifCond .eq 8, 3) := by decide +kernel
theorem dX1_canJoin_27 : decode cX1_canJoin 27 = .ok (.iload_n 1, 1) := by decide +kernel
theorem dX1_canJoin_28 : decode cX1_canJoin 28 = .ok (.iconst 1, 1) := by decide +kernel
theorem dX1_canJoin_29 : decode cX1_canJoin 29 = .ok (.if_icmp .ne 7, 3) := by decide +kernel
theorem dX1_canJoin_32 : decode cX1_canJoin 32 = .ok (.iconst 1, 1) := by decide +kernel
theorem dX1_canJoin_33 : decode cX1_canJoin 33 = .ok (.goto 4, 3) := by decide +kernel
theorem dX1_canJoin_36 : decode cX1_canJoin 36 = .ok (.iconst 0, 1) := by decide +kernel
theorem dX1_canJoin_37 : decode cX1_canJoin 37 = .ok (.istore 4, 2) := by decide +kernel
theorem dX1_canJoin_39 : decode cX1_canJoin 39 = .ok (.iload 4, 2) := by decide +kernel
theorem dX1_canJoin_41 : decode cX1_canJoin 41 = .ok (.aload_n 0, 1) := by decide +kernel
theorem dX1_canJoin_42 : decode cX1_canJoin 42 = .ok (.getfield 9, 3) := by decide +kernel
theorem dX1_canJoin_45 : decode cX1_canJoin 45 = .ok (.iload_n 2, 1) := by decide +kernel
theorem dX1_canJoin_46 : decode cX1_canJoin 46 = .ok (.iaload, 1) := by decide +kernel
theorem dX1_canJoin_47 : decode cX1_canJoin 47 = .ok (.aload_n 0, 1) := by decide +kernel
theorem dX1_canJoin_48 : decode cX1_canJoin 48 = .ok (.getfield 9, 3) := by decide +kernel
theorem dX1_canJoin_51 : decode cX1_canJoin 51 = .ok (.iload_n 3, 1) := by decide +kernel
theorem dX1_canJoin_52 : decode cX1_canJoin 52 = .ok (.iaload, 1) := by decide +kernel
theorem dX1_canJoin_53 : decode cX1_canJoin 53 = .ok (.if_icmp .ne 7, 3) := by decide +kernel
theorem dX1_canJoin_56 : decode cX1_canJoin 56 = .ok (.iconst 1, 1) := by decide +kernel
theorem dX1_canJoin_57 : decode cX1_canJoin 57 = .ok (.goto 4, 3) := by decide +kernel
theorem dX1_canJoin_60 : decode cX1_canJoin 60 = .ok (.iconst 0, 1) := by decide +kernel
theorem dX1_canJoin_61 : decode cX1_canJoin 61 = .ok (.if_icmp .ne 7, 3) := by decide +kernel
theorem dX1_canJoin_64 : decode cX1_canJoin 64 = .ok (.iconst 1, 1) := by decide +kernel
theorem dX1_canJoin_65 : decode cX1_canJoin 65 = .ok (.goto 4, 3) := by decide +kernel
theorem dX1_canJoin_68 : decode cX1_canJoin 68 = .ok (.iconst 0, 1) := by decide +kernel
theorem dX1_canJoin_69 : decode cX1_canJoin 69 = .ok (.ireturn, 1) := by decide +kernel
theorem dX1_setCancelled_0 : decode cX1_setCancelled 0 = .ok (.aload_n 0, 1) := by decide +kernel
theorem dX1_setCancelled_1 : decode cX1_setCancelled 1 = .ok (.getfield 40, 3) := by decide +kernel
theorem dX1_setCancelled_4 : decode cX1_setCancelled 4 = .ok (.iload_n 1, 1) := by decide +kernel
theorem dX1_setCancelled_5 : decode cX1_setCancelled 5 = .ok (.iload_n 2, 1) := by decide +kernel
theorem dX1_setCancelled_6 : decode cX1_setCancelled 6 = .ok (.bastore, 1) := by decide +kernel
theorem dX1_setCancelled_7 : decode cX1_setCancelled 7 = .ok (.iconst 0, 1) := by decide +kernel
theorem dX1_setCancelled_8 : decode cX1_setCancelled 8 = .ok (.istore_n 3, 1) := by decide +kernel
theorem dX1_setCancelled_9 : decode cX1_setCancelled 9 = .ok (.iload_n 3, 1) := by decide +kernel
theorem dX1_setCancelled_10 : decode cX1_setCancelled 10 = .ok (.aload_n 0, 1) := by decide +kernel
theorem dX1_setCancelled_11 : decode cX1_setCancelled 11 = .ok (.getfield 43, 3) := by decide +kernel
theorem dX1_setCancelled_14 : decode cX1_setCancelled 14 = .ok (.if_icmp .ge 34, 3) := by decide +kernel
theorem dX1_setCancelled_17 : decode cX1_setCancelled 17 = .ok (.aload_n 0, 1) := by decide +kernel
theorem dX1_setCancelled_18 : decode cX1_setCancelled 18 = .ok (.getfield 9, 3) := by decide +kernel
theorem dX1_setCancelled_21 : decode cX1_setCancelled 21 = .ok (.iload_n 3, 1) := by decide +kernel
theorem dX1_setCancelled_22 : decode cX1_setCancelled 22 = .ok (.iaload, 1) := by decide +kernel
theorem dX1_setCancelled_23 : decode cX1_setCancelled 23 = .ok (.iload_n 1, 1) := by decide +kernel
theorem dX1_setCancelled_24 : decode cX1_setCancelled 24 = .ok (.if_icmp .ne 18, 3) := by decide +kernel
theorem dX1_setCancelled_27 : decode cX1_setCancelled 27 = .ok (.aload_n 0, 1) := by decide +kernel
theorem dX1_setCancelled_28 : decode cX1_setCancelled 28 = .ok (.getfield 21, 3) := by decide +kernel
theorem dX1_setCancelled_31 : decode cX1_setCancelled 31 = .ok (.iload_n 3, 1) := by decide +kernel
theorem dX1_setCancelled_32 : decode cX1_setCancelled 32 = .ok (.iload_n 2, 1) := by decide +kernel
theorem dX1_setCancelled_33 : decode cX1_setCancelled 33 = .ok (.ifCond .ne 7, 3) := by decide +kernel
theorem dX1_setCancelled_36 : decode cX1_setCancelled 36 = .ok (.iconst 1, 1) := by decide +kernel
theorem dX1_setCancelled_37 : decode cX1_setCancelled 37 = .ok (.goto 4, 3) := by decide +kernel
theorem dX1_setCancelled_40 : decode cX1_setCancelled 40 = .ok (.iconst 0, 1) := by decide +kernel
theorem dX1_setCancelled_41 : decode cX1_setCancelled 41 = .ok (.bastore, 1) := by decide +kernel
theorem dX1_setCancelled_42 : decode cX1_setCancelled 42 = .ok (.iinc 3 1, 3) := by decide +kernel
theorem dX1_setCancelled_45 : decode cX1_setCancelled 45 = .ok (.goto (-36), 3) := by decide +kernel
theorem dX1_setCancelled_48 : decode cX1_setCancelled 48 = .ok (.return_, 1) := by decide +kernel
theorem dX1_joinsThere_0 : decode cX1_joinsThere 0 = .ok (.aload_n 0, 1) := by decide +kernel
theorem dX1_joinsThere_1 : decode cX1_joinsThere 1 = .ok (.getfield 21, 3) := by decide +kernel
theorem dX1_joinsThere_4 : decode cX1_joinsThere 4 = .ok (.aload_n 0, 1) := by decide +kernel
theorem dX1_joinsThere_5 : decode cX1_joinsThere 5 = .ok (.getfield 28, 3) := by decide +kernel
theorem dX1_joinsThere_8 : decode cX1_joinsThere 8 = .ok (.iload_n 1, 1) := by decide +kernel
theorem dX1_joinsThere_9 : decode cX1_joinsThere 9 = .ok (.iaload, 1) := by decide +kernel
theorem dX1_joinsThere_10 : decode cX1_joinsThere 10 = .ok (.baload, 1) := by decide +kernel
theorem dX1_joinsThere_11 : decode cX1_joinsThere 11 = .ok (.ifCond .eq 21, 3) := by decide +kernel
theorem dX1_joinsThere_14 : decode cX1_joinsThere 14 = .ok (.aload_n 0, 1) := by decide +kernel
theorem dX1_joinsThere_15 : decode cX1_joinsThere 15 = .ok (.getfield 21, 3) := by decide +kernel
theorem dX1_joinsThere_18 : decode cX1_joinsThere 18 = .ok (.aload_n 0, 1) := by decide +kernel
theorem dX1_joinsThere_19 : decode cX1_joinsThere 19 = .ok (.getfield 31, 3) := by decide +kernel
theorem dX1_joinsThere_22 : decode cX1_joinsThere 22 = .ok (.iload_n 1, 1) := by decide +kernel
theorem dX1_joinsThere_23 : decode cX1_joinsThere 23 = .ok (.iaload, 1) := by decide +kernel
theorem dX1_joinsThere_24 : decode cX1_joinsThere 24 = .ok (.baload, 1) := by decide +kernel
theorem dX1_joinsThere_25 : decode cX1_joinsThere 25 = .ok (.ifCond .eq 7, 3) := by decide +kernel
theorem dX1_joinsThere_28 : decode cX1_joinsThere 28 = .ok (.iconst 1, 1) := by decide +kernel
theorem dX1_joinsThere_29 : decode cX1_joinsThere 29 = .ok (.goto 4, 3) := by decide +kernel
theorem dX1_joinsThere_32 : decode cX1_joinsThere 32 = .ok (.iconst 0, 1) := by decide +kernel
theorem dX1_joinsThere_33 : decode cX1_joinsThere 33 = .ok (.ireturn, 1) := by decide +kernel
set_option maxRecDepth 20000 in
theorem ggX1_holds_X1_joinsThere : GoodIn wsX1_holds wsX1_joinsThere := goodIn_r _ [6, 7, 8, 9, 10, 11, 12, 13, 14, 15, 16, 17, 18, 19, 20, 21] (by decide +kernel) (by decide +kernel)
set_option maxRecDepth 20000 in
theorem gX1_holds_X1_joinsThere : GoodIn wsX1_holds (wsV RX1 57 RX1 yX1_joinsThere wsX1_joinsThere) := goodIn_app (goodIn_of _ (by decide +kernel)) ggX1_holds_X1_joinsThere
theorem dX1_holds_0 : decode cX1_holds 0 = .ok (.aload_n 0, 1) := by decide +kernel
theorem dX1_holds_1 : decode cX1_holds 1 = .ok (.getfield 37, 3) := by decide +kernel
theorem dX1_holds_4 : decode cX1_holds 4 = .ok (.iload_n 1, 1) := by decide +kernel
theorem dX1_holds_5 : decode cX1_holds 5 = .ok (.baload, 1) := by decide +kernel
theorem dX1_holds_6 : decode cX1_holds 6 = .ok (.ifCond .eq 15, 3) := by decide +kernel
theorem dX1_holds_9 : decode cX1_holds 9 = .ok (.aload_n 0, 1) := by decide +kernel
theorem dX1_holds_10 : decode cX1_holds 10 = .ok (.iload_n 1, 1) := by decide +kernel
theorem dX1_holds_11 : decode cX1_holds 11 = .ok (.invokevirtual 57, 3) := by decide +kernel
theorem dX1_holds_14 : decode cX1_holds 14 = .ok (.ifCond .eq 7, 3) := by decide +kernel
theorem dX1_holds_17 : decode cX1_holds 17 = .ok (.iconst 1, 1) := by decide +kernel
theorem dX1_holds_18 : decode cX1_holds 18 = .ok (.goto 4, 3) := by decide +kernel
theorem dX1_holds_21 : decode cX1_holds 21 = .ok (.iconst 0, 1) := by decide +kernel
theorem dX1_holds_22 : decode cX1_holds 22 = .ok (.ireturn, 1) := by decide +kernel
theorem dX1_slack_0 : decode cX1_slack 0 = .ok (.aload_n 0, 1) := by decide +kernel
theorem dX1_slack_1 : decode cX1_slack 1 = .ok (.getfield 15, 3) := by decide +kernel
theorem dX1_slack_4 : decode cX1_slack 4 = .ok (.aload_n 0, 1) := by decide +kernel
theorem dX1_slack_5 : decode cX1_slack 5 = .ok (.getfield 31, 3) := by decide +kernel
theorem dX1_slack_8 : decode cX1_slack 8 = .ok (.iload_n 1, 1) := by decide +kernel
theorem dX1_slack_9 : decode cX1_slack 9 = .ok (.iaload, 1) := by decide +kernel
theorem dX1_slack_10 : decode cX1_slack 10 = .ok (.iaload, 1) := by decide +kernel
theorem dX1_slack_11 : decode cX1_slack 11 = .ok (.aload_n 0, 1) := by decide +kernel
theorem dX1_slack_12 : decode cX1_slack 12 = .ok (.getfield 15, 3) := by decide +kernel
theorem dX1_slack_15 : decode cX1_slack 15 = .ok (.aload_n 0, 1) := by decide +kernel
theorem dX1_slack_16 : decode cX1_slack 16 = .ok (.getfield 28, 3) := by decide +kernel
theorem dX1_slack_19 : decode cX1_slack 19 = .ok (.iload_n 1, 1) := by decide +kernel
theorem dX1_slack_20 : decode cX1_slack 20 = .ok (.iaload, 1) := by decide +kernel
theorem dX1_slack_21 : decode cX1_slack 21 = .ok (.iaload, 1) := by decide +kernel
theorem dX1_slack_22 : decode cX1_slack 22 = .ok (.isub, 1) := by decide +kernel
theorem dX1_slack_23 : decode cX1_slack 23 = .ok (.aload_n 0, 1) := by decide +kernel
theorem dX1_slack_24 : decode cX1_slack 24 = .ok (.getfield 34, 3) := by decide +kernel
theorem dX1_slack_27 : decode cX1_slack 27 = .ok (.iload_n 1, 1) := by decide +kernel
theorem dX1_slack_28 : decode cX1_slack 28 = .ok (.iaload, 1) := by decide +kernel
theorem dX1_slack_29 : decode cX1_slack 29 = .ok (.isub, 1) := by decide +kernel
theorem dX1_slack_30 : decode cX1_slack 30 = .ok (.ireturn, 1) := by decide +kernel
theorem dX1_keptChanges_0 : decode cX1_keptChanges 0 = .ok (.iconst 0, 1) := by decide +kernel
theorem dX1_keptChanges_1 : decode cX1_keptChanges 1 = .ok (.istore_n 1, 1) := by decide +kernel
theorem dX1_keptChanges_2 : decode cX1_keptChanges 2 = .ok (.iconst 0, 1) := by decide +kernel
theorem dX1_keptChanges_3 : decode cX1_keptChanges 3 = .ok (.istore_n 2, 1) := by decide +kernel
theorem dX1_keptChanges_4 : decode cX1_keptChanges 4 = .ok (.iload_n 2, 1) := by decide +kernel
theorem dX1_keptChanges_5 : decode cX1_keptChanges 5 = .ok (.aload_n 0, 1) := by decide +kernel
theorem dX1_keptChanges_6 : decode cX1_keptChanges 6 = .ok (.getfield 47, 3) := by decide +kernel
theorem dX1_keptChanges_9 : decode cX1_keptChanges 9 = .ok (.if_icmp .ge 31, 3) := by decide +kernel
theorem dX1_keptChanges_12 : decode cX1_keptChanges 12 = .ok (.aload_n 0, 1) := by decide +kernel
theorem dX1_keptChanges_13 : decode cX1_keptChanges 13 = .ok (.getfield 25, 3) := by decide +kernel
theorem dX1_keptChanges_16 : decode cX1_keptChanges 16 = .ok (.iload_n 2, 1) := by decide +kernel
theorem dX1_keptChanges_17 : decode cX1_keptChanges 17 = .ok (.iaload, 1) := by decide +kernel
theorem dX1_keptChanges_18 : decode cX1_keptChanges 18 = .ok (.iconst 2, 1) := by decide +kernel
theorem dX1_keptChanges_19 : decode cX1_keptChanges 19 = .ok (.if_icmp .ne 15, 3) := by decide +kernel
theorem dX1_keptChanges_22 : decode cX1_keptChanges 22 = .ok (.aload_n 0, 1) := by decide +kernel
theorem dX1_keptChanges_23 : decode cX1_keptChanges 23 = .ok (.getfield 37, 3) := by decide +kernel
theorem dX1_keptChanges_26 : decode cX1_keptChanges 26 = .ok (.iload_n 2, 1) := by decide +kernel
theorem dX1_keptChanges_27 : decode cX1_keptChanges 27 = .ok (.baload, 1) := by decide +kernel
theorem dX1_keptChanges_28 : decode cX1_keptChanges 28 = .ok (.ifCond .eq 6, 3) := by decide +kernel
theorem dX1_keptChanges_31 : decode cX1_keptChanges 31 = .ok (.iinc 1 1, 3) := by decide +kernel
theorem dX1_keptChanges_34 : decode cX1_keptChanges 34 = .ok (.iinc 2 1, 3) := by decide +kernel
theorem dX1_keptChanges_37 : decode cX1_keptChanges 37 = .ok (.goto (-33), 3) := by decide +kernel
theorem dX1_keptChanges_40 : decode cX1_keptChanges 40 = .ok (.iload_n 1, 1) := by decide +kernel
theorem dX1_keptChanges_41 : decode cX1_keptChanges 41 = .ok (.ireturn, 1) := by decide +kernel
theorem dX1_cancelledTrains_0 : decode cX1_cancelledTrains 0 = .ok (.iconst 0, 1) := by decide +kernel
theorem dX1_cancelledTrains_1 : decode cX1_cancelledTrains 1 = .ok (.istore_n 1, 1) := by decide +kernel
theorem dX1_cancelledTrains_2 : decode cX1_cancelledTrains 2 = .ok (.iconst 0, 1) := by decide +kernel
theorem dX1_cancelledTrains_3 : decode cX1_cancelledTrains 3 = .ok (.istore_n 2, 1) := by decide +kernel
theorem dX1_cancelledTrains_4 : decode cX1_cancelledTrains 4 = .ok (.iload_n 2, 1) := by decide +kernel
theorem dX1_cancelledTrains_5 : decode cX1_cancelledTrains 5 = .ok (.bipush 16, 2) := by decide +kernel
theorem dX1_cancelledTrains_7 : decode cX1_cancelledTrains 7 = .ok (.if_icmp .ge 21, 3) := by decide +kernel
theorem dX1_cancelledTrains_10 : decode cX1_cancelledTrains 10 = .ok (.aload_n 0, 1) := by decide +kernel
theorem dX1_cancelledTrains_11 : decode cX1_cancelledTrains 11 = .ok (.getfield 40, 3) := by decide +kernel
theorem dX1_cancelledTrains_14 : decode cX1_cancelledTrains 14 = .ok (.iload_n 2, 1) := by decide +kernel
theorem dX1_cancelledTrains_15 : decode cX1_cancelledTrains 15 = .ok (.baload, 1) := by decide +kernel
theorem dX1_cancelledTrains_16 : decode cX1_cancelledTrains 16 = .ok (.ifCond .eq 6, 3) := by decide +kernel
theorem dX1_cancelledTrains_19 : decode cX1_cancelledTrains 19 = .ok (.iinc 1 1, 3) := by decide +kernel
theorem dX1_cancelledTrains_22 : decode cX1_cancelledTrains 22 = .ok (.iinc 2 1, 3) := by decide +kernel
theorem dX1_cancelledTrains_25 : decode cX1_cancelledTrains 25 = .ok (.goto (-21), 3) := by decide +kernel
theorem dX1_cancelledTrains_28 : decode cX1_cancelledTrains 28 = .ok (.iload_n 1, 1) := by decide +kernel
theorem dX1_cancelledTrains_29 : decode cX1_cancelledTrains 29 = .ok (.ireturn, 1) := by decide +kernel
set_option maxRecDepth 20000 in
theorem ggX1_tightActivities_X1_slack : GoodIn wsX1_tightActivities wsX1_slack := goodIn_r _ [6, 7, 8, 9, 10, 11, 12, 13, 14, 15, 16, 17, 18, 19, 20, 21, 22] (by decide +kernel) (by decide +kernel)
set_option maxRecDepth 20000 in
theorem gX1_tightActivities_X1_slack : GoodIn wsX1_tightActivities (wsV RX1 60 RX1 yX1_slack wsX1_slack) := goodIn_app (goodIn_of _ (by decide +kernel)) ggX1_tightActivities_X1_slack
theorem dX1_tightActivities_0 : decode cX1_tightActivities 0 = .ok (.iconst 0, 1) := by decide +kernel
theorem dX1_tightActivities_1 : decode cX1_tightActivities 1 = .ok (.istore_n 1, 1) := by decide +kernel
theorem dX1_tightActivities_2 : decode cX1_tightActivities 2 = .ok (.iconst 0, 1) := by decide +kernel
theorem dX1_tightActivities_3 : decode cX1_tightActivities 3 = .ok (.istore_n 2, 1) := by decide +kernel
theorem dX1_tightActivities_4 : decode cX1_tightActivities 4 = .ok (.iload_n 2, 1) := by decide +kernel
theorem dX1_tightActivities_5 : decode cX1_tightActivities 5 = .ok (.aload_n 0, 1) := by decide +kernel
theorem dX1_tightActivities_6 : decode cX1_tightActivities 6 = .ok (.getfield 47, 3) := by decide +kernel
theorem dX1_tightActivities_9 : decode cX1_tightActivities 9 = .ok (.if_icmp .ge 20, 3) := by decide +kernel
theorem dX1_tightActivities_12 : decode cX1_tightActivities 12 = .ok (.aload_n 0, 1) := by decide +kernel
theorem dX1_tightActivities_13 : decode cX1_tightActivities 13 = .ok (.iload_n 2, 1) := by decide +kernel
theorem dX1_tightActivities_14 : decode cX1_tightActivities 14 = .ok (.invokevirtual 60, 3) := by decide +kernel
theorem dX1_tightActivities_17 : decode cX1_tightActivities 17 = .ok (.ifCond .ge 6, 3) := by decide +kernel
theorem dX1_tightActivities_20 : decode cX1_tightActivities 20 = .ok (.iinc 1 1, 3) := by decide +kernel
theorem dX1_tightActivities_23 : decode cX1_tightActivities 23 = .ok (.iinc 2 1, 3) := by decide +kernel
theorem dX1_tightActivities_26 : decode cX1_tightActivities 26 = .ok (.goto (-22), 3) := by decide +kernel
theorem dX1_tightActivities_29 : decode cX1_tightActivities 29 = .ok (.iload_n 1, 1) := by decide +kernel
theorem dX1_tightActivities_30 : decode cX1_tightActivities 30 = .ok (.ireturn, 1) := by decide +kernel
theorem dX1_putEarliest_0 : decode cX1_putEarliest 0 = .ok (.iconst 0, 1) := by decide +kernel
theorem dX1_putEarliest_1 : decode cX1_putEarliest 1 = .ok (.istore_n 2, 1) := by decide +kernel
theorem dX1_putEarliest_2 : decode cX1_putEarliest 2 = .ok (.iload_n 2, 1) := by decide +kernel
theorem dX1_putEarliest_3 : decode cX1_putEarliest 3 = .ok (.aload_n 0, 1) := by decide +kernel
theorem dX1_putEarliest_4 : decode cX1_putEarliest 4 = .ok (.getfield 43, 3) := by decide +kernel
theorem dX1_putEarliest_7 : decode cX1_putEarliest 7 = .ok (.if_icmp .ge 25, 3) := by decide +kernel
theorem dX1_putEarliest_10 : decode cX1_putEarliest 10 = .ok (.aload_n 1, 1) := by decide +kernel
theorem dX1_putEarliest_11 : decode cX1_putEarliest 11 = .ok (.iload_n 2, 1) := by decide +kernel
theorem dX1_putEarliest_12 : decode cX1_putEarliest 12 = .ok (.aload_n 0, 1) := by decide +kernel
theorem dX1_putEarliest_13 : decode cX1_putEarliest 13 = .ok (.getfield 15, 3) := by decide +kernel
theorem dX1_putEarliest_16 : decode cX1_putEarliest 16 = .ok (.iload_n 2, 1) := by decide +kernel
theorem dX1_putEarliest_17 : decode cX1_putEarliest 17 = .ok (.iaload, 1) := by decide +kernel
theorem dX1_putEarliest_18 : decode cX1_putEarliest 18 = .ok (.aload_n 0, 1) := by decide +kernel
theorem dX1_putEarliest_19 : decode cX1_putEarliest 19 = .ok (.getfield 18, 3) := by decide +kernel
theorem dX1_putEarliest_22 : decode cX1_putEarliest 22 = .ok (.iload_n 2, 1) := by decide +kernel
theorem dX1_putEarliest_23 : decode cX1_putEarliest 23 = .ok (.iaload, 1) := by decide +kernel
theorem dX1_putEarliest_24 : decode cX1_putEarliest 24 = .ok (.iadd, 1) := by decide +kernel
theorem dX1_putEarliest_25 : decode cX1_putEarliest 25 = .ok (.iastore, 1) := by decide +kernel
theorem dX1_putEarliest_26 : decode cX1_putEarliest 26 = .ok (.iinc 2 1, 3) := by decide +kernel
theorem dX1_putEarliest_29 : decode cX1_putEarliest 29 = .ok (.goto (-27), 3) := by decide +kernel
theorem dX1_putEarliest_32 : decode cX1_putEarliest 32 = .ok (.return_, 1) := by decide +kernel
set_option maxRecDepth 20000 in
theorem ggX1_settle_X1_raise : GoodIn wsX1_settle wsX1_raise := goodIn_r _ [6, 7, 8, 9, 10, 11, 12, 13, 5, 14, 15, 16, 17, 18, 19, 20, 21, 22, 23, 24, 25, 26, 27, 28, 29, 30, 31, 32, 33, 34, 35, 36] (by decide +kernel) (by decide +kernel)
set_option maxRecDepth 20000 in
theorem gX1_settle_X1_raise : GoodIn wsX1_settle (wsV RX1 64 RX1 yX1_raise wsX1_raise) := goodIn_app (goodIn_of _ (by decide +kernel)) ggX1_settle_X1_raise
theorem dX1_settle_0 : decode cX1_settle 0 = .ok (.iconst 0, 1) := by decide +kernel
theorem dX1_settle_1 : decode cX1_settle 1 = .ok (.istore_n 2, 1) := by decide +kernel
theorem dX1_settle_2 : decode cX1_settle 2 = .ok (.iload_n 2, 1) := by decide +kernel
theorem dX1_settle_3 : decode cX1_settle 3 = .ok (.aload_n 0, 1) := by decide +kernel
theorem dX1_settle_4 : decode cX1_settle 4 = .ok (.getfield 43, 3) := by decide +kernel
theorem dX1_settle_7 : decode cX1_settle 7 = .ok (.if_icmp .gt 19, 3) := by decide +kernel
theorem dX1_settle_10 : decode cX1_settle 10 = .ok (.aload_n 0, 1) := by decide +kernel
theorem dX1_settle_11 : decode cX1_settle 11 = .ok (.aload_n 1, 1) := by decide +kernel
theorem dX1_settle_12 : decode cX1_settle 12 = .ok (.invokevirtual 64, 3) := by decide +kernel
theorem dX1_settle_15 : decode cX1_settle 15 = .ok (.ifCond .ne 5, 3) := by decide +kernel
theorem dX1_settle_18 : decode cX1_settle 18 = .ok (.iconst 1, 1) := by decide +kernel
theorem dX1_settle_19 : decode cX1_settle 19 = .ok (.ireturn, 1) := by decide +kernel
theorem dX1_settle_20 : decode cX1_settle 20 = .ok (.iinc 2 1, 3) := by decide +kernel
theorem dX1_settle_23 : decode cX1_settle 23 = .ok (.goto (-21), 3) := by decide +kernel
theorem dX1_settle_26 : decode cX1_settle 26 = .ok (.iconst 0, 1) := by decide +kernel
theorem dX1_settle_27 : decode cX1_settle 27 = .ok (.ireturn, 1) := by decide +kernel
set_option maxRecDepth 20000 in
theorem ggX1_raise_X1_isObeyed : GoodIn wsX1_raise wsX1_isObeyed := goodIn_r _ [9, 2, 3, 4, 20, 21, 22, 23, 24, 25, 26, 27, 28, 29, 30, 31] (by decide +kernel) (by decide +kernel)
set_option maxRecDepth 20000 in
theorem gX1_raise_X1_isObeyed : GoodIn wsX1_raise (wsV RX1 68 RX1 yX1_isObeyed wsX1_isObeyed) := goodIn_app (goodIn_of _ (by decide +kernel)) ggX1_raise_X1_isObeyed
set_option maxRecDepth 20000 in
theorem ggX1_raise_X1_holds : GoodIn wsX1_raise wsX1_holds := goodIn_r _ [13, 14, 15, 16, 17, 8, 18, 19, 3, 2, 20, 21, 22, 23, 24, 25, 26, 27, 28, 29, 30, 31] (by decide +kernel) (by decide +kernel)
set_option maxRecDepth 20000 in
theorem gX1_raise_X1_holds : GoodIn wsX1_raise (wsV RX1 72 RX1 yX1_holds wsX1_holds) := goodIn_app (goodIn_of _ (by decide +kernel)) ggX1_raise_X1_holds
theorem dX1_raise_0 : decode cX1_raise 0 = .ok (.iconst 0, 1) := by decide +kernel
theorem dX1_raise_1 : decode cX1_raise 1 = .ok (.istore_n 2, 1) := by decide +kernel
theorem dX1_raise_2 : decode cX1_raise 2 = .ok (.iconst 0, 1) := by decide +kernel
theorem dX1_raise_3 : decode cX1_raise 3 = .ok (.istore_n 3, 1) := by decide +kernel
theorem dX1_raise_4 : decode cX1_raise 4 = .ok (.iload_n 3, 1) := by decide +kernel
theorem dX1_raise_5 : decode cX1_raise 5 = .ok (.aload_n 0, 1) := by decide +kernel
theorem dX1_raise_6 : decode cX1_raise 6 = .ok (.getfield 47, 3) := by decide +kernel
theorem dX1_raise_9 : decode cX1_raise 9 = .ok (.if_icmp .ge 51, 3) := by decide +kernel
theorem dX1_raise_12 : decode cX1_raise 12 = .ok (.aload_n 0, 1) := by decide +kernel
theorem dX1_raise_13 : decode cX1_raise 13 = .ok (.iload_n 3, 1) := by decide +kernel
theorem dX1_raise_14 : decode cX1_raise 14 = .ok (.aload_n 1, 1) := by decide +kernel
theorem dX1_raise_15 : decode cX1_raise 15 = .ok (.invokevirtual 68, 3) := by decide +kernel
theorem dX1_raise_18 : decode cX1_raise 18 = .ok (.ifCond .ne 36, 3) := by decide +kernel
theorem dX1_raise_21 : decode cX1_raise 21 = .ok (.aload_n 0, 1) := by decide +kernel
theorem dX1_raise_22 : decode cX1_raise 22 = .ok (.iload_n 3, 1) := by decide +kernel
theorem dX1_raise_23 : decode cX1_raise 23 = .ok (.invokevirtual 72, 3) := by decide +kernel
theorem dX1_raise_26 : decode cX1_raise 26 = .ok (.ifCond .eq 28, 3) := by decide +kernel
theorem dX1_raise_29 : decode cX1_raise 29 = .ok (.aload_n 1, 1) := by decide +kernel
theorem dX1_raise_30 : decode cX1_raise 30 = .ok (.aload_n 0, 1) := by decide +kernel
theorem dX1_raise_31 : decode cX1_raise 31 = .ok (.getfield 31, 3) := by decide +kernel
theorem dX1_raise_34 : decode cX1_raise 34 = .ok (.iload_n 3, 1) := by decide +kernel
theorem dX1_raise_35 : decode cX1_raise 35 = .ok (.iaload, 1) := by decide +kernel
theorem dX1_raise_36 : decode cX1_raise 36 = .ok (.aload_n 1, 1) := by decide +kernel
theorem dX1_raise_37 : decode cX1_raise 37 = .ok (.aload_n 0, 1) := by decide +kernel
theorem dX1_raise_38 : decode cX1_raise 38 = .ok (.getfield 28, 3) := by decide +kernel
theorem dX1_raise_41 : decode cX1_raise 41 = .ok (.iload_n 3, 1) := by decide +kernel
theorem dX1_raise_42 : decode cX1_raise 42 = .ok (.iaload, 1) := by decide +kernel
theorem dX1_raise_43 : decode cX1_raise 43 = .ok (.iaload, 1) := by decide +kernel
theorem dX1_raise_44 : decode cX1_raise 44 = .ok (.aload_n 0, 1) := by decide +kernel
theorem dX1_raise_45 : decode cX1_raise 45 = .ok (.getfield 34, 3) := by decide +kernel
theorem dX1_raise_48 : decode cX1_raise 48 = .ok (.iload_n 3, 1) := by decide +kernel
theorem dX1_raise_49 : decode cX1_raise 49 = .ok (.iaload, 1) := by decide +kernel
theorem dX1_raise_50 : decode cX1_raise 50 = .ok (.iadd, 1) := by decide +kernel
theorem dX1_raise_51 : decode cX1_raise 51 = .ok (.iastore, 1) := by decide +kernel
theorem dX1_raise_52 : decode cX1_raise 52 = .ok (.iconst 1, 1) := by decide +kernel
theorem dX1_raise_53 : decode cX1_raise 53 = .ok (.istore_n 2, 1) := by decide +kernel
theorem dX1_raise_54 : decode cX1_raise 54 = .ok (.iinc 3 1, 3) := by decide +kernel
theorem dX1_raise_57 : decode cX1_raise 57 = .ok (.goto (-53), 3) := by decide +kernel
theorem dX1_raise_60 : decode cX1_raise 60 = .ok (.iload_n 2, 1) := by decide +kernel
theorem dX1_raise_61 : decode cX1_raise 61 = .ok (.ireturn, 1) := by decide +kernel
theorem dX1_isObeyed_0 : decode cX1_isObeyed 0 = .ok (.aload_n 2, 1) := by decide +kernel
theorem dX1_isObeyed_1 : decode cX1_isObeyed 1 = .ok (.aload_n 0, 1) := by decide +kernel
theorem dX1_isObeyed_2 : decode cX1_isObeyed 2 = .ok (.getfield 31, 3) := by decide +kernel
theorem dX1_isObeyed_5 : decode cX1_isObeyed 5 = .ok (.iload_n 1, 1) := by decide +kernel
theorem dX1_isObeyed_6 : decode cX1_isObeyed 6 = .ok (.iaload, 1) := by decide +kernel
theorem dX1_isObeyed_7 : decode cX1_isObeyed 7 = .ok (.iaload, 1) := by decide +kernel
theorem dX1_isObeyed_8 : decode cX1_isObeyed 8 = .ok (.aload_n 2, 1) := by decide +kernel
theorem dX1_isObeyed_9 : decode cX1_isObeyed 9 = .ok (.aload_n 0, 1) := by decide +kernel
theorem dX1_isObeyed_10 : decode cX1_isObeyed 10 = .ok (.getfield 28, 3) := by decide +kernel
theorem dX1_isObeyed_13 : decode cX1_isObeyed 13 = .ok (.iload_n 1, 1) := by decide +kernel
theorem dX1_isObeyed_14 : decode cX1_isObeyed 14 = .ok (.iaload, 1) := by decide +kernel
theorem dX1_isObeyed_15 : decode cX1_isObeyed 15 = .ok (.iaload, 1) := by decide +kernel
theorem dX1_isObeyed_16 : decode cX1_isObeyed 16 = .ok (.aload_n 0, 1) := by decide +kernel
theorem dX1_isObeyed_17 : decode cX1_isObeyed 17 = .ok (.getfield 34, 3) := by decide +kernel
theorem dX1_isObeyed_20 : decode cX1_isObeyed 20 = .ok (.iload_n 1, 1) := by decide +kernel
theorem dX1_isObeyed_21 : decode cX1_isObeyed 21 = .ok (.iaload, 1) := by decide +kernel
theorem dX1_isObeyed_22 : decode cX1_isObeyed 22 = .ok (.iadd, 1) := by decide +kernel
theorem dX1_isObeyed_23 : decode cX1_isObeyed 23 = .ok (.if_icmp .lt 7, 3) := by decide +kernel
theorem dX1_isObeyed_26 : decode cX1_isObeyed 26 = .ok (.iconst 1, 1) := by decide +kernel
theorem dX1_isObeyed_27 : decode cX1_isObeyed 27 = .ok (.goto 4, 3) := by decide +kernel
theorem dX1_isObeyed_30 : decode cX1_isObeyed 30 = .ok (.iconst 0, 1) := by decide +kernel
theorem dX1_isObeyed_31 : decode cX1_isObeyed 31 = .ok (.ireturn, 1) := by decide +kernel
theorem dX2_init_0 : decode cX2_init 0 = .ok (.aload_n 0, 1) := by decide +kernel
theorem dX2_init_1 : decode cX2_init 1 = .ok (.invokespecial 3, 3) := by decide +kernel
theorem dX2_init_4 : decode cX2_init 4 = .ok (.aload_n 0, 1) := by decide +kernel
theorem dX2_init_5 : decode cX2_init 5 = .ok (.bipush 61, 2) := by decide +kernel
theorem dX2_init_7 : decode cX2_init 7 = .ok (.bipush 60, 2) := by decide +kernel
theorem dX2_init_9 : decode cX2_init 9 = .ok (.multianewarray 9 2, 4) := by decide +kernel
theorem dX2_init_13 : decode cX2_init 13 = .ok (.putfield 11, 3) := by decide +kernel
theorem dX2_init_16 : decode cX2_init 16 = .ok (.aload_n 0, 1) := by decide +kernel
theorem dX2_init_17 : decode cX2_init 17 = .ok (.bipush 60, 2) := by decide +kernel
theorem dX2_init_19 : decode cX2_init 19 = .ok (.newarray .int, 2) := by decide +kernel
theorem dX2_init_21 : decode cX2_init 21 = .ok (.putfield 16, 3) := by decide +kernel
theorem dX2_init_24 : decode cX2_init 24 = .ok (.aload_n 0, 1) := by decide +kernel
theorem dX2_init_25 : decode cX2_init 25 = .ok (.bipush 100, 2) := by decide +kernel
theorem dX2_init_27 : decode cX2_init 27 = .ok (.newarray .int, 2) := by decide +kernel
theorem dX2_init_29 : decode cX2_init 29 = .ok (.putfield 20, 3) := by decide +kernel
theorem dX2_init_32 : decode cX2_init 32 = .ok (.aload_n 0, 1) := by decide +kernel
theorem dX2_init_33 : decode cX2_init 33 = .ok (.iconst 0, 1) := by decide +kernel
theorem dX2_init_34 : decode cX2_init 34 = .ok (.putfield 23, 3) := by decide +kernel
theorem dX2_init_37 : decode cX2_init 37 = .ok (.aload_n 0, 1) := by decide +kernel
theorem dX2_init_38 : decode cX2_init 38 = .ok (.bipush 60, 2) := by decide +kernel
theorem dX2_init_40 : decode cX2_init 40 = .ok (.newarray .int, 2) := by decide +kernel
theorem dX2_init_42 : decode cX2_init 42 = .ok (.putfield 27, 3) := by decide +kernel
theorem dX2_init_45 : decode cX2_init 45 = .ok (.aload_n 0, 1) := by decide +kernel
theorem dX2_init_46 : decode cX2_init 46 = .ok (.iconst 0, 1) := by decide +kernel
theorem dX2_init_47 : decode cX2_init 47 = .ok (.putfield 30, 3) := by decide +kernel
theorem dX2_init_50 : decode cX2_init 50 = .ok (.aload_n 0, 1) := by decide +kernel
theorem dX2_init_51 : decode cX2_init 51 = .ok (.aload_n 1, 1) := by decide +kernel
theorem dX2_init_52 : decode cX2_init 52 = .ok (.putfield 33, 3) := by decide +kernel
theorem dX2_init_55 : decode cX2_init 55 = .ok (.return_, 1) := by decide +kernel
set_option maxRecDepth 20000 in
theorem ggX2_find_X2_gatherHolding : GoodIn wsX2_find wsX2_gatherHolding := goodIn_r _ [6, 7, 8, 9, 10, 11, 12, 13, 14, 15, 16, 17, 18, 19, 20, 21, 22, 23, 67, 68, 69, 70, 71, 72, 73, 74, 75, 76, 77, 78, 79, 80, 81, 82, 83, 84, 85] (by decide +kernel) (by decide +kernel)
set_option maxRecDepth 20000 in
theorem gX2_find_X2_gatherHolding : GoodIn wsX2_find (wsV RX2 37 RX2 yX2_gatherHolding wsX2_gatherHolding) := goodIn_app (goodIn_of _ (by decide +kernel)) ggX2_find_X2_gatherHolding
set_option maxRecDepth 20000 in
theorem ggX2_find_X2_shortest : GoodIn wsX2_find wsX2_shortest := goodIn_r _ [27, 8, 28, 29, 30, 31, 32, 5, 33, 34, 35, 36, 37, 38, 39, 40, 41, 42, 43, 44, 45, 46, 7, 47, 10, 48, 49, 50, 51, 52, 53, 67, 68, 69, 70, 71, 72, 73, 74, 75, 76, 77, 78, 79, 80, 81, 82, 83, 84, 85] (by decide +kernel) (by decide +kernel)
set_option maxRecDepth 20000 in
theorem gX2_find_X2_shortest : GoodIn wsX2_find (wsV RX2 40 RX2 yX2_shortest wsX2_shortest) := goodIn_app (goodIn_of _ (by decide +kernel)) ggX2_find_X2_shortest
set_option maxRecDepth 20000 in
theorem ggX2_find_X2_lowestMember : GoodIn wsX2_find wsX2_lowestMember := goodIn_r _ [57, 7, 8, 47, 10, 29, 35, 36, 37, 5, 38, 34, 39, 40, 41, 42, 43, 44, 45, 46, 48, 49, 50, 51, 52, 53, 67, 68, 69, 70, 71, 72, 73, 74, 75, 76, 77, 78, 79, 80, 81, 82, 83, 84, 85] (by decide +kernel) (by decide +kernel)
set_option maxRecDepth 20000 in
theorem gX2_find_X2_lowestMember : GoodIn wsX2_find (wsV RX2 44 RX2 yX2_lowestMember wsX2_lowestMember) := goodIn_app (goodIn_of _ (by decide +kernel)) ggX2_find_X2_lowestMember
set_option maxRecDepth 20000 in
theorem ggX2_find_X2_follow : GoodIn wsX2_find wsX2_follow := goodIn_r _ [61, 62, 8, 53, 52, 1, 63, 64, 65, 5, 66, 7, 47, 10, 48, 49, 50, 51, 34, 67, 68, 69, 70, 71, 72, 73, 74, 75, 76, 77, 78, 79, 80, 81, 82, 83, 84, 85] (by decide +kernel) (by decide +kernel)
set_option maxRecDepth 20000 in
theorem gX2_find_X2_follow : GoodIn wsX2_find (wsV RX2 48 RX2 yX2_follow wsX2_follow) := goodIn_app (goodIn_of _ (by decide +kernel)) ggX2_find_X2_follow
theorem dX2_find_0 : decode cX2_find 0 = .ok (.aload_n 0, 1) := by decide +kernel
theorem dX2_find_1 : decode cX2_find 1 = .ok (.iconst 0, 1) := by decide +kernel
theorem dX2_find_2 : decode cX2_find 2 = .ok (.putfield 30, 3) := by decide +kernel
theorem dX2_find_5 : decode cX2_find 5 = .ok (.aload_n 0, 1) := by decide +kernel
theorem dX2_find_6 : decode cX2_find 6 = .ok (.invokevirtual 37, 3) := by decide +kernel
theorem dX2_find_9 : decode cX2_find 9 = .ok (.aload_n 0, 1) := by decide +kernel
theorem dX2_find_10 : decode cX2_find 10 = .ok (.invokevirtual 40, 3) := by decide +kernel
theorem dX2_find_13 : decode cX2_find 13 = .ok (.istore_n 1, 1) := by decide +kernel
theorem dX2_find_14 : decode cX2_find 14 = .ok (.iload_n 1, 1) := by decide +kernel
theorem dX2_find_15 : decode cX2_find 15 = .ok (.iconst (-1), 1) := by decide +kernel
theorem dX2_find_16 : decode cX2_find 16 = .ok (.if_icmp .ne 7, 3) := by decide +kernel
theorem dX2_find_19 : decode cX2_find 19 = .ok (.iconst (-1), 1) := by decide +kernel
theorem dX2_find_20 : decode cX2_find 20 = .ok (.goto 8, 3) := by decide +kernel
theorem dX2_find_23 : decode cX2_find 23 = .ok (.aload_n 0, 1) := by decide +kernel
theorem dX2_find_24 : decode cX2_find 24 = .ok (.iload_n 1, 1) := by decide +kernel
theorem dX2_find_25 : decode cX2_find 25 = .ok (.invokevirtual 44, 3) := by decide +kernel
theorem dX2_find_28 : decode cX2_find 28 = .ok (.istore_n 2, 1) := by decide +kernel
theorem dX2_find_29 : decode cX2_find 29 = .ok (.iload_n 2, 1) := by decide +kernel
theorem dX2_find_30 : decode cX2_find 30 = .ok (.iconst (-1), 1) := by decide +kernel
theorem dX2_find_31 : decode cX2_find 31 = .ok (.if_icmp .eq 9, 3) := by decide +kernel
theorem dX2_find_34 : decode cX2_find 34 = .ok (.aload_n 0, 1) := by decide +kernel
theorem dX2_find_35 : decode cX2_find 35 = .ok (.iload_n 2, 1) := by decide +kernel
theorem dX2_find_36 : decode cX2_find 36 = .ok (.iload_n 1, 1) := by decide +kernel
theorem dX2_find_37 : decode cX2_find 37 = .ok (.invokevirtual 48, 3) := by decide +kernel
theorem dX2_find_40 : decode cX2_find 40 = .ok (.return_, 1) := by decide +kernel
set_option maxRecDepth 20000 in
theorem ggX2_gatherHolding_X1_holds : GoodIn wsX2_gatherHolding wsX1_holds := goodIn_r _ [9, 10, 11, 12, 13, 8, 14, 15, 16, 17, 25, 26, 27, 28, 29, 30, 31, 32, 33, 34, 35, 36] (by decide +kernel) (by decide +kernel)
set_option maxRecDepth 20000 in
theorem gX2_gatherHolding_X1_holds : GoodIn wsX2_gatherHolding (wsV RX2 57 RX1 yX1_holds wsX1_holds) := goodIn_app (goodIn_of _ (by decide +kernel)) ggX2_gatherHolding_X1_holds
theorem dX2_gatherHolding_0 : decode cX2_gatherHolding 0 = .ok (.aload_n 0, 1) := by decide +kernel
theorem dX2_gatherHolding_1 : decode cX2_gatherHolding 1 = .ok (.iconst 0, 1) := by decide +kernel
theorem dX2_gatherHolding_2 : decode cX2_gatherHolding 2 = .ok (.putfield 23, 3) := by decide +kernel
theorem dX2_gatherHolding_5 : decode cX2_gatherHolding 5 = .ok (.iconst 0, 1) := by decide +kernel
theorem dX2_gatherHolding_6 : decode cX2_gatherHolding 6 = .ok (.istore_n 1, 1) := by decide +kernel
theorem dX2_gatherHolding_7 : decode cX2_gatherHolding 7 = .ok (.iload_n 1, 1) := by decide +kernel
theorem dX2_gatherHolding_8 : decode cX2_gatherHolding 8 = .ok (.aload_n 0, 1) := by decide +kernel
theorem dX2_gatherHolding_9 : decode cX2_gatherHolding 9 = .ok (.getfield 33, 3) := by decide +kernel
theorem dX2_gatherHolding_12 : decode cX2_gatherHolding 12 = .ok (.getfield 52, 3) := by decide +kernel
theorem dX2_gatherHolding_15 : decode cX2_gatherHolding 15 = .ok (.if_icmp .ge 40, 3) := by decide +kernel
theorem dX2_gatherHolding_18 : decode cX2_gatherHolding 18 = .ok (.aload_n 0, 1) := by decide +kernel
theorem dX2_gatherHolding_19 : decode cX2_gatherHolding 19 = .ok (.getfield 33, 3) := by decide +kernel
theorem dX2_gatherHolding_22 : decode cX2_gatherHolding 22 = .ok (.iload_n 1, 1) := by decide +kernel
theorem dX2_gatherHolding_23 : decode cX2_gatherHolding 23 = .ok (.invokevirtual 57, 3) := by decide +kernel
theorem dX2_gatherHolding_26 : decode cX2_gatherHolding 26 = .ok (.ifCond .eq 23, 3) := by decide +kernel
theorem dX2_gatherHolding_29 : decode cX2_gatherHolding 29 = .ok (.aload_n 0, 1) := by decide +kernel
theorem dX2_gatherHolding_30 : decode cX2_gatherHolding 30 = .ok (.getfield 20, 3) := by decide +kernel
theorem dX2_gatherHolding_33 : decode cX2_gatherHolding 33 = .ok (.aload_n 0, 1) := by decide +kernel
theorem dX2_gatherHolding_34 : decode cX2_gatherHolding 34 = .ok (.getfield 23, 3) := by decide +kernel
theorem dX2_gatherHolding_37 : decode cX2_gatherHolding 37 = .ok (.iload_n 1, 1) := by decide +kernel
theorem dX2_gatherHolding_38 : decode cX2_gatherHolding 38 = .ok (.iastore, 1) := by decide +kernel
theorem dX2_gatherHolding_39 : decode cX2_gatherHolding 39 = .ok (.aload_n 0, 1) := by decide +kernel
theorem dX2_gatherHolding_40 : decode cX2_gatherHolding 40 = .ok (.dup, 1) := by decide +kernel
theorem dX2_gatherHolding_41 : decode cX2_gatherHolding 41 = .ok (.getfield 23, 3) := by decide +kernel
theorem dX2_gatherHolding_44 : decode cX2_gatherHolding 44 = .ok (.iconst 1, 1) := by decide +kernel
theorem dX2_gatherHolding_45 : decode cX2_gatherHolding 45 = .ok (.iadd, 1) := by decide +kernel
theorem dX2_gatherHolding_46 : decode cX2_gatherHolding 46 = .ok (.putfield 23, 3) := by decide +kernel
theorem dX2_gatherHolding_49 : decode cX2_gatherHolding 49 = .ok (.iinc 1 1, 3) := by decide +kernel
theorem dX2_gatherHolding_52 : decode cX2_gatherHolding 52 = .ok (.goto (-45), 3) := by decide +kernel
theorem dX2_gatherHolding_55 : decode cX2_gatherHolding 55 = .ok (.return_, 1) := by decide +kernel
set_option maxRecDepth 20000 in
theorem ggX2_shortest_X2_shortestThrough : GoodIn wsX2_shortest wsX2_shortestThrough := goodIn_r _ [8, 9, 10, 11, 12, 7, 13, 14, 15, 16, 17, 18, 19, 20, 21, 22, 1, 23, 24, 25, 26, 27, 28, 29, 30, 31, 32, 33, 34, 35, 36, 37, 38, 39, 40, 41, 42, 43, 44, 45, 46, 47, 48, 49] (by decide +kernel) (by decide +kernel)
set_option maxRecDepth 20000 in
theorem gX2_shortest_X2_shortestThrough : GoodIn wsX2_shortest (wsV RX2 64 RX2 yX2_shortestThrough wsX2_shortestThrough) := goodIn_app (goodIn_of _ (by decide +kernel)) ggX2_shortest_X2_shortestThrough
theorem dX2_shortest_0 : decode cX2_shortest 0 = .ok (.iconst (-1), 1) := by decide +kernel
theorem dX2_shortest_1 : decode cX2_shortest 1 = .ok (.istore_n 1, 1) := by decide +kernel
theorem dX2_shortest_2 : decode cX2_shortest 2 = .ok (.iconst 0, 1) := by decide +kernel
theorem dX2_shortest_3 : decode cX2_shortest 3 = .ok (.istore_n 2, 1) := by decide +kernel
theorem dX2_shortest_4 : decode cX2_shortest 4 = .ok (.iload_n 2, 1) := by decide +kernel
theorem dX2_shortest_5 : decode cX2_shortest 5 = .ok (.aload_n 0, 1) := by decide +kernel
theorem dX2_shortest_6 : decode cX2_shortest 6 = .ok (.getfield 33, 3) := by decide +kernel
theorem dX2_shortest_9 : decode cX2_shortest 9 = .ok (.getfield 61, 3) := by decide +kernel
theorem dX2_shortest_12 : decode cX2_shortest 12 = .ok (.if_icmp .ge 53, 3) := by decide +kernel
theorem dX2_shortest_15 : decode cX2_shortest 15 = .ok (.aload_n 0, 1) := by decide +kernel
theorem dX2_shortest_16 : decode cX2_shortest 16 = .ok (.getfield 16, 3) := by decide +kernel
theorem dX2_shortest_19 : decode cX2_shortest 19 = .ok (.iload_n 2, 1) := by decide +kernel
theorem dX2_shortest_20 : decode cX2_shortest 20 = .ok (.aload_n 0, 1) := by decide +kernel
theorem dX2_shortest_21 : decode cX2_shortest 21 = .ok (.iload_n 2, 1) := by decide +kernel
theorem dX2_shortest_22 : decode cX2_shortest 22 = .ok (.iload_n 1, 1) := by decide +kernel
theorem dX2_shortest_23 : decode cX2_shortest 23 = .ok (.iconst (-1), 1) := by decide +kernel
theorem dX2_shortest_24 : decode cX2_shortest 24 = .ok (.if_icmp .ne 13, 3) := by decide +kernel
theorem dX2_shortest_27 : decode cX2_shortest 27 = .ok (.aload_n 0, 1) := by decide +kernel
theorem dX2_shortest_28 : decode cX2_shortest 28 = .ok (.getfield 33, 3) := by decide +kernel
theorem dX2_shortest_31 : decode cX2_shortest 31 = .ok (.getfield 61, 3) := by decide +kernel
theorem dX2_shortest_34 : decode cX2_shortest 34 = .ok (.goto 4, 3) := by decide +kernel
theorem dX2_shortest_37 : decode cX2_shortest 37 = .ok (.iload_n 1, 1) := by decide +kernel
theorem dX2_shortest_38 : decode cX2_shortest 38 = .ok (.invokevirtual 64, 3) := by decide +kernel
theorem dX2_shortest_41 : decode cX2_shortest 41 = .ok (.iastore, 1) := by decide +kernel
theorem dX2_shortest_42 : decode cX2_shortest 42 = .ok (.aload_n 0, 1) := by decide +kernel
theorem dX2_shortest_43 : decode cX2_shortest 43 = .ok (.getfield 16, 3) := by decide +kernel
theorem dX2_shortest_46 : decode cX2_shortest 46 = .ok (.iload_n 2, 1) := by decide +kernel
theorem dX2_shortest_47 : decode cX2_shortest 47 = .ok (.iaload, 1) := by decide +kernel
theorem dX2_shortest_48 : decode cX2_shortest 48 = .ok (.iconst (-1), 1) := by decide +kernel
theorem dX2_shortest_49 : decode cX2_shortest 49 = .ok (.if_icmp .eq 10, 3) := by decide +kernel
theorem dX2_shortest_52 : decode cX2_shortest 52 = .ok (.aload_n 0, 1) := by decide +kernel
theorem dX2_shortest_53 : decode cX2_shortest 53 = .ok (.getfield 16, 3) := by decide +kernel
theorem dX2_shortest_56 : decode cX2_shortest 56 = .ok (.iload_n 2, 1) := by decide +kernel
theorem dX2_shortest_57 : decode cX2_shortest 57 = .ok (.iaload, 1) := by decide +kernel
theorem dX2_shortest_58 : decode cX2_shortest 58 = .ok (.istore_n 1, 1) := by decide +kernel
theorem dX2_shortest_59 : decode cX2_shortest 59 = .ok (.iinc 2 1, 3) := by decide +kernel
theorem dX2_shortest_62 : decode cX2_shortest 62 = .ok (.goto (-58), 3) := by decide +kernel
theorem dX2_shortest_65 : decode cX2_shortest 65 = .ok (.iload_n 1, 1) := by decide +kernel
theorem dX2_shortest_66 : decode cX2_shortest 66 = .ok (.ireturn, 1) := by decide +kernel
set_option maxRecDepth 20000 in
theorem ggX2_shortestThrough_X2_aimAt : GoodIn wsX2_shortestThrough wsX2_aimAt := goodIn_r _ [6, 1, 7, 8, 9, 10, 25, 26, 27, 28, 29, 30, 31] (by decide +kernel) (by decide +kernel)
set_option maxRecDepth 20000 in
theorem gX2_shortestThrough_X2_aimAt : GoodIn wsX2_shortestThrough (wsV RX2 68 RX2 yX2_aimAt wsX2_aimAt) := goodIn_app (goodIn_of _ (by decide +kernel)) ggX2_shortestThrough_X2_aimAt
set_option maxRecDepth 20000 in
theorem ggX2_shortestThrough_X2_lengthen : GoodIn wsX2_shortestThrough wsX2_lengthen := goodIn_r _ [14, 1, 15, 16, 17, 18, 7, 8, 9, 10, 19, 20, 21, 5, 22, 23, 24, 25, 26, 27, 28, 29, 30, 31, 32, 33, 34, 35, 36, 37, 38, 39, 40, 41, 42, 43] (by decide +kernel) (by decide +kernel)
set_option maxRecDepth 20000 in
theorem gX2_shortestThrough_X2_lengthen : GoodIn wsX2_shortestThrough (wsV RX2 72 RX2 yX2_lengthen wsX2_lengthen) := goodIn_app (goodIn_of _ (by decide +kernel)) ggX2_shortestThrough_X2_lengthen
theorem dX2_shortestThrough_0 : decode cX2_shortestThrough 0 = .ok (.aload_n 0, 1) := by decide +kernel
theorem dX2_shortestThrough_1 : decode cX2_shortestThrough 1 = .ok (.iload_n 1, 1) := by decide +kernel
theorem dX2_shortestThrough_2 : decode cX2_shortestThrough 2 = .ok (.invokevirtual 68, 3) := by decide +kernel
theorem dX2_shortestThrough_5 : decode cX2_shortestThrough 5 = .ok (.iconst 1, 1) := by decide +kernel
theorem dX2_shortestThrough_6 : decode cX2_shortestThrough 6 = .ok (.istore_n 3, 1) := by decide +kernel
theorem dX2_shortestThrough_7 : decode cX2_shortestThrough 7 = .ok (.iload_n 3, 1) := by decide +kernel
theorem dX2_shortestThrough_8 : decode cX2_shortestThrough 8 = .ok (.iload_n 2, 1) := by decide +kernel
theorem dX2_shortestThrough_9 : decode cX2_shortestThrough 9 = .ok (.if_icmp .gt 27, 3) := by decide +kernel
theorem dX2_shortestThrough_12 : decode cX2_shortestThrough 12 = .ok (.aload_n 0, 1) := by decide +kernel
theorem dX2_shortestThrough_13 : decode cX2_shortestThrough 13 = .ok (.iload_n 3, 1) := by decide +kernel
theorem dX2_shortestThrough_14 : decode cX2_shortestThrough 14 = .ok (.invokevirtual 72, 3) := by decide +kernel
theorem dX2_shortestThrough_17 : decode cX2_shortestThrough 17 = .ok (.aload_n 0, 1) := by decide +kernel
theorem dX2_shortestThrough_18 : decode cX2_shortestThrough 18 = .ok (.getfield 11, 3) := by decide +kernel
theorem dX2_shortestThrough_21 : decode cX2_shortestThrough 21 = .ok (.iload_n 3, 1) := by decide +kernel
theorem dX2_shortestThrough_22 : decode cX2_shortestThrough 22 = .ok (.aaload, 1) := by decide +kernel
theorem dX2_shortestThrough_23 : decode cX2_shortestThrough 23 = .ok (.iload_n 1, 1) := by decide +kernel
theorem dX2_shortestThrough_24 : decode cX2_shortestThrough 24 = .ok (.iaload, 1) := by decide +kernel
theorem dX2_shortestThrough_25 : decode cX2_shortestThrough 25 = .ok (.ifCond .le 5, 3) := by decide +kernel
theorem dX2_shortestThrough_28 : decode cX2_shortestThrough 28 = .ok (.iload_n 3, 1) := by decide +kernel
theorem dX2_shortestThrough_29 : decode cX2_shortestThrough 29 = .ok (.ireturn, 1) := by decide +kernel
theorem dX2_shortestThrough_30 : decode cX2_shortestThrough 30 = .ok (.iinc 3 1, 3) := by decide +kernel
theorem dX2_shortestThrough_33 : decode cX2_shortestThrough 33 = .ok (.goto (-26), 3) := by decide +kernel
theorem dX2_shortestThrough_36 : decode cX2_shortestThrough 36 = .ok (.iconst (-1), 1) := by decide +kernel
theorem dX2_shortestThrough_37 : decode cX2_shortestThrough 37 = .ok (.ireturn, 1) := by decide +kernel
set_option maxRecDepth 20000 in
theorem ggX2_aimAt_J7_fill_53178 : GoodIn wsX2_aimAt wsJ7_fill_53178 := goodIn_r _ [5] (by decide +kernel) (by decide +kernel)
set_option maxRecDepth 20000 in
theorem gX2_aimAt_J7_fill_53178 : GoodIn wsX2_aimAt (va_wsS RX2 75 yJ7_fill_53178 wsJ7_fill_53178) := goodIn_app (goodIn_of _ (by decide +kernel)) ggX2_aimAt_J7_fill_53178
theorem dX2_aimAt_0 : decode cX2_aimAt 0 = .ok (.aload_n 0, 1) := by decide +kernel
theorem dX2_aimAt_1 : decode cX2_aimAt 1 = .ok (.getfield 11, 3) := by decide +kernel
theorem dX2_aimAt_4 : decode cX2_aimAt 4 = .ok (.iconst 0, 1) := by decide +kernel
theorem dX2_aimAt_5 : decode cX2_aimAt 5 = .ok (.aaload, 1) := by decide +kernel
theorem dX2_aimAt_6 : decode cX2_aimAt 6 = .ok (.iconst (-1), 1) := by decide +kernel
theorem dX2_aimAt_7 : decode cX2_aimAt 7 = .ok (.invokestatic 75, 3) := by decide +kernel
theorem dX2_aimAt_10 : decode cX2_aimAt 10 = .ok (.aload_n 0, 1) := by decide +kernel
theorem dX2_aimAt_11 : decode cX2_aimAt 11 = .ok (.getfield 11, 3) := by decide +kernel
theorem dX2_aimAt_14 : decode cX2_aimAt 14 = .ok (.iconst 0, 1) := by decide +kernel
theorem dX2_aimAt_15 : decode cX2_aimAt 15 = .ok (.aaload, 1) := by decide +kernel
theorem dX2_aimAt_16 : decode cX2_aimAt 16 = .ok (.iload_n 1, 1) := by decide +kernel
theorem dX2_aimAt_17 : decode cX2_aimAt 17 = .ok (.iconst 0, 1) := by decide +kernel
theorem dX2_aimAt_18 : decode cX2_aimAt 18 = .ok (.iastore, 1) := by decide +kernel
theorem dX2_aimAt_19 : decode cX2_aimAt 19 = .ok (.return_, 1) := by decide +kernel
set_option maxRecDepth 20000 in
theorem ggX2_lengthen_J7_fill_53178 : GoodIn wsX2_lengthen wsJ7_fill_53178 := goodIn_r _ [9] (by decide +kernel) (by decide +kernel)
set_option maxRecDepth 20000 in
theorem gX2_lengthen_J7_fill_53178 : GoodIn wsX2_lengthen (va_wsS RX2 75 yJ7_fill_53178 wsJ7_fill_53178) := goodIn_app (goodIn_of _ (by decide +kernel)) ggX2_lengthen_J7_fill_53178
set_option maxRecDepth 20000 in
theorem ggX2_lengthen_X2_reachBy : GoodIn wsX2_lengthen wsX2_reachBy := goodIn_r _ [14, 1, 3, 15, 16, 17, 18, 19, 20, 21, 22, 23, 24, 25, 26, 27, 28, 29, 30, 31, 32, 33, 34, 35] (by decide +kernel) (by decide +kernel)
set_option maxRecDepth 20000 in
theorem gX2_lengthen_X2_reachBy : GoodIn wsX2_lengthen (wsV RX2 84 RX2 yX2_reachBy wsX2_reachBy) := goodIn_app (goodIn_of _ (by decide +kernel)) ggX2_lengthen_X2_reachBy
theorem dX2_lengthen_0 : decode cX2_lengthen 0 = .ok (.aload_n 0, 1) := by decide +kernel
theorem dX2_lengthen_1 : decode cX2_lengthen 1 = .ok (.getfield 11, 3) := by decide +kernel
theorem dX2_lengthen_4 : decode cX2_lengthen 4 = .ok (.iload_n 1, 1) := by decide +kernel
theorem dX2_lengthen_5 : decode cX2_lengthen 5 = .ok (.aaload, 1) := by decide +kernel
theorem dX2_lengthen_6 : decode cX2_lengthen 6 = .ok (.iconst (-1), 1) := by decide +kernel
theorem dX2_lengthen_7 : decode cX2_lengthen 7 = .ok (.invokestatic 75, 3) := by decide +kernel
theorem dX2_lengthen_10 : decode cX2_lengthen 10 = .ok (.iconst 0, 1) := by decide +kernel
theorem dX2_lengthen_11 : decode cX2_lengthen 11 = .ok (.istore_n 2, 1) := by decide +kernel
theorem dX2_lengthen_12 : decode cX2_lengthen 12 = .ok (.iload_n 2, 1) := by decide +kernel
theorem dX2_lengthen_13 : decode cX2_lengthen 13 = .ok (.aload_n 0, 1) := by decide +kernel
theorem dX2_lengthen_14 : decode cX2_lengthen 14 = .ok (.getfield 23, 3) := by decide +kernel
theorem dX2_lengthen_17 : decode cX2_lengthen 17 = .ok (.if_icmp .ge 62, 3) := by decide +kernel
theorem dX2_lengthen_20 : decode cX2_lengthen 20 = .ok (.aload_n 0, 1) := by decide +kernel
theorem dX2_lengthen_21 : decode cX2_lengthen 21 = .ok (.getfield 33, 3) := by decide +kernel
theorem dX2_lengthen_24 : decode cX2_lengthen 24 = .ok (.getfield 81, 3) := by decide +kernel
theorem dX2_lengthen_27 : decode cX2_lengthen 27 = .ok (.aload_n 0, 1) := by decide +kernel
theorem dX2_lengthen_28 : decode cX2_lengthen 28 = .ok (.getfield 20, 3) := by decide +kernel
theorem dX2_lengthen_31 : decode cX2_lengthen 31 = .ok (.iload_n 2, 1) := by decide +kernel
theorem dX2_lengthen_32 : decode cX2_lengthen 32 = .ok (.iaload, 1) := by decide +kernel
theorem dX2_lengthen_33 : decode cX2_lengthen 33 = .ok (.iaload, 1) := by decide +kernel
theorem dX2_lengthen_34 : decode cX2_lengthen 34 = .ok (.istore_n 3, 1) := by decide +kernel
theorem dX2_lengthen_35 : decode cX2_lengthen 35 = .ok (.aload_n 0, 1) := by decide +kernel
theorem dX2_lengthen_36 : decode cX2_lengthen 36 = .ok (.aload_n 0, 1) := by decide +kernel
theorem dX2_lengthen_37 : decode cX2_lengthen 37 = .ok (.getfield 20, 3) := by decide +kernel
theorem dX2_lengthen_40 : decode cX2_lengthen 40 = .ok (.iload_n 2, 1) := by decide +kernel
theorem dX2_lengthen_41 : decode cX2_lengthen 41 = .ok (.iaload, 1) := by decide +kernel
theorem dX2_lengthen_42 : decode cX2_lengthen 42 = .ok (.iload_n 1, 1) := by decide +kernel
theorem dX2_lengthen_43 : decode cX2_lengthen 43 = .ok (.iconst 1, 1) := by decide +kernel
theorem dX2_lengthen_44 : decode cX2_lengthen 44 = .ok (.isub, 1) := by decide +kernel
theorem dX2_lengthen_45 : decode cX2_lengthen 45 = .ok (.invokevirtual 84, 3) := by decide +kernel
theorem dX2_lengthen_48 : decode cX2_lengthen 48 = .ok (.istore 4, 2) := by decide +kernel
theorem dX2_lengthen_50 : decode cX2_lengthen 50 = .ok (.iload 4, 2) := by decide +kernel
theorem dX2_lengthen_52 : decode cX2_lengthen 52 = .ok (.aload_n 0, 1) := by decide +kernel
theorem dX2_lengthen_53 : decode cX2_lengthen 53 = .ok (.getfield 11, 3) := by decide +kernel
theorem dX2_lengthen_56 : decode cX2_lengthen 56 = .ok (.iload_n 1, 1) := by decide +kernel
theorem dX2_lengthen_57 : decode cX2_lengthen 57 = .ok (.aaload, 1) := by decide +kernel
theorem dX2_lengthen_58 : decode cX2_lengthen 58 = .ok (.iload_n 3, 1) := by decide +kernel
theorem dX2_lengthen_59 : decode cX2_lengthen 59 = .ok (.iaload, 1) := by decide +kernel
theorem dX2_lengthen_60 : decode cX2_lengthen 60 = .ok (.if_icmp .le 13, 3) := by decide +kernel
theorem dX2_lengthen_63 : decode cX2_lengthen 63 = .ok (.aload_n 0, 1) := by decide +kernel
theorem dX2_lengthen_64 : decode cX2_lengthen 64 = .ok (.getfield 11, 3) := by decide +kernel
theorem dX2_lengthen_67 : decode cX2_lengthen 67 = .ok (.iload_n 1, 1) := by decide +kernel
theorem dX2_lengthen_68 : decode cX2_lengthen 68 = .ok (.aaload, 1) := by decide +kernel
theorem dX2_lengthen_69 : decode cX2_lengthen 69 = .ok (.iload_n 3, 1) := by decide +kernel
theorem dX2_lengthen_70 : decode cX2_lengthen 70 = .ok (.iload 4, 2) := by decide +kernel
theorem dX2_lengthen_72 : decode cX2_lengthen 72 = .ok (.iastore, 1) := by decide +kernel
theorem dX2_lengthen_73 : decode cX2_lengthen 73 = .ok (.iinc 2 1, 3) := by decide +kernel
theorem dX2_lengthen_76 : decode cX2_lengthen 76 = .ok (.goto (-64), 3) := by decide +kernel
theorem dX2_lengthen_79 : decode cX2_lengthen 79 = .ok (.return_, 1) := by decide +kernel
theorem dX2_reachBy_0 : decode cX2_reachBy 0 = .ok (.aload_n 0, 1) := by decide +kernel
theorem dX2_reachBy_1 : decode cX2_reachBy 1 = .ok (.getfield 11, 3) := by decide +kernel
theorem dX2_reachBy_4 : decode cX2_reachBy 4 = .ok (.iload_n 2, 1) := by decide +kernel
theorem dX2_reachBy_5 : decode cX2_reachBy 5 = .ok (.aaload, 1) := by decide +kernel
theorem dX2_reachBy_6 : decode cX2_reachBy 6 = .ok (.aload_n 0, 1) := by decide +kernel
theorem dX2_reachBy_7 : decode cX2_reachBy 7 = .ok (.getfield 33, 3) := by decide +kernel
theorem dX2_reachBy_10 : decode cX2_reachBy 10 = .ok (.getfield 87, 3) := by decide +kernel
theorem dX2_reachBy_13 : decode cX2_reachBy 13 = .ok (.iload_n 1, 1) := by decide +kernel
theorem dX2_reachBy_14 : decode cX2_reachBy 14 = .ok (.iaload, 1) := by decide +kernel
theorem dX2_reachBy_15 : decode cX2_reachBy 15 = .ok (.iaload, 1) := by decide +kernel
theorem dX2_reachBy_16 : decode cX2_reachBy 16 = .ok (.istore_n 3, 1) := by decide +kernel
theorem dX2_reachBy_17 : decode cX2_reachBy 17 = .ok (.iload_n 3, 1) := by decide +kernel
theorem dX2_reachBy_18 : decode cX2_reachBy 18 = .ok (.iconst (-1), 1) := by decide +kernel
theorem dX2_reachBy_19 : decode cX2_reachBy 19 = .ok (.if_icmp .ne 7, 3) := by decide +kernel
theorem dX2_reachBy_22 : decode cX2_reachBy 22 = .ok (.iconst (-1), 1) := by decide +kernel
theorem dX2_reachBy_23 : decode cX2_reachBy 23 = .ok (.goto 14, 3) := by decide +kernel
theorem dX2_reachBy_26 : decode cX2_reachBy 26 = .ok (.iload_n 3, 1) := by decide +kernel
theorem dX2_reachBy_27 : decode cX2_reachBy 27 = .ok (.aload_n 0, 1) := by decide +kernel
theorem dX2_reachBy_28 : decode cX2_reachBy 28 = .ok (.getfield 33, 3) := by decide +kernel
theorem dX2_reachBy_31 : decode cX2_reachBy 31 = .ok (.getfield 90, 3) := by decide +kernel
theorem dX2_reachBy_34 : decode cX2_reachBy 34 = .ok (.iload_n 1, 1) := by decide +kernel
theorem dX2_reachBy_35 : decode cX2_reachBy 35 = .ok (.iaload, 1) := by decide +kernel
theorem dX2_reachBy_36 : decode cX2_reachBy 36 = .ok (.iadd, 1) := by decide +kernel
theorem dX2_reachBy_37 : decode cX2_reachBy 37 = .ok (.ireturn, 1) := by decide +kernel
set_option maxRecDepth 20000 in
theorem ggX2_lowestMember_X2_aimAt : GoodIn wsX2_lowestMember wsX2_aimAt := goodIn_r _ [10, 11, 12, 13, 14, 15, 26, 27, 28, 29, 30, 31, 32] (by decide +kernel) (by decide +kernel)
set_option maxRecDepth 20000 in
theorem gX2_lowestMember_X2_aimAt : GoodIn wsX2_lowestMember (wsV RX2 68 RX2 yX2_aimAt wsX2_aimAt) := goodIn_app (goodIn_of _ (by decide +kernel)) ggX2_lowestMember_X2_aimAt
set_option maxRecDepth 20000 in
theorem ggX2_lowestMember_X2_lengthen : GoodIn wsX2_lowestMember wsX2_lengthen := goodIn_r _ [19, 11, 1, 2, 3, 4, 12, 13, 14, 15, 20, 21, 22, 9, 23, 24, 25, 26, 27, 28, 29, 30, 31, 32, 33, 34, 35, 36, 37, 38, 39, 40, 41, 42, 43, 44] (by decide +kernel) (by decide +kernel)
set_option maxRecDepth 20000 in
theorem gX2_lowestMember_X2_lengthen : GoodIn wsX2_lowestMember (wsV RX2 72 RX2 yX2_lengthen wsX2_lengthen) := goodIn_app (goodIn_of _ (by decide +kernel)) ggX2_lowestMember_X2_lengthen
set_option maxRecDepth 20000 in
theorem ggX2_lowestMember_X2_reachBy : GoodIn wsX2_lowestMember wsX2_reachBy := goodIn_r _ [23, 11, 2, 24, 25, 26, 27, 28, 29, 30, 31, 32, 33, 34, 35, 36, 37, 38, 39, 40, 41, 42, 43, 44] (by decide +kernel) (by decide +kernel)
set_option maxRecDepth 20000 in
theorem gX2_lowestMember_X2_reachBy : GoodIn wsX2_lowestMember (wsV RX2 84 RX2 yX2_reachBy wsX2_reachBy) := goodIn_app (goodIn_of _ (by decide +kernel)) ggX2_lowestMember_X2_reachBy
theorem dX2_lowestMember_0 : decode cX2_lowestMember 0 = .ok (.iconst 0, 1) := by decide +kernel
theorem dX2_lowestMember_1 : decode cX2_lowestMember 1 = .ok (.istore_n 2, 1) := by decide +kernel
theorem dX2_lowestMember_2 : decode cX2_lowestMember 2 = .ok (.iload_n 2, 1) := by decide +kernel
theorem dX2_lowestMember_3 : decode cX2_lowestMember 3 = .ok (.aload_n 0, 1) := by decide +kernel
theorem dX2_lowestMember_4 : decode cX2_lowestMember 4 = .ok (.getfield 23, 3) := by decide +kernel
theorem dX2_lowestMember_7 : decode cX2_lowestMember 7 = .ok (.if_icmp .ge 83, 3) := by decide +kernel
theorem dX2_lowestMember_10 : decode cX2_lowestMember 10 = .ok (.aload_n 0, 1) := by decide +kernel
theorem dX2_lowestMember_11 : decode cX2_lowestMember 11 = .ok (.getfield 33, 3) := by decide +kernel
theorem dX2_lowestMember_14 : decode cX2_lowestMember 14 = .ok (.getfield 81, 3) := by decide +kernel
theorem dX2_lowestMember_17 : decode cX2_lowestMember 17 = .ok (.aload_n 0, 1) := by decide +kernel
theorem dX2_lowestMember_18 : decode cX2_lowestMember 18 = .ok (.getfield 20, 3) := by decide +kernel
theorem dX2_lowestMember_21 : decode cX2_lowestMember 21 = .ok (.iload_n 2, 1) := by decide +kernel
theorem dX2_lowestMember_22 : decode cX2_lowestMember 22 = .ok (.iaload, 1) := by decide +kernel
theorem dX2_lowestMember_23 : decode cX2_lowestMember 23 = .ok (.iaload, 1) := by decide +kernel
theorem dX2_lowestMember_24 : decode cX2_lowestMember 24 = .ok (.istore_n 3, 1) := by decide +kernel
theorem dX2_lowestMember_25 : decode cX2_lowestMember 25 = .ok (.aload_n 0, 1) := by decide +kernel
theorem dX2_lowestMember_26 : decode cX2_lowestMember 26 = .ok (.getfield 16, 3) := by decide +kernel
theorem dX2_lowestMember_29 : decode cX2_lowestMember 29 = .ok (.iload_n 3, 1) := by decide +kernel
theorem dX2_lowestMember_30 : decode cX2_lowestMember 30 = .ok (.iaload, 1) := by decide +kernel
theorem dX2_lowestMember_31 : decode cX2_lowestMember 31 = .ok (.iload_n 1, 1) := by decide +kernel
theorem dX2_lowestMember_32 : decode cX2_lowestMember 32 = .ok (.if_icmp .ne 52, 3) := by decide +kernel
theorem dX2_lowestMember_35 : decode cX2_lowestMember 35 = .ok (.aload_n 0, 1) := by decide +kernel
theorem dX2_lowestMember_36 : decode cX2_lowestMember 36 = .ok (.iload_n 3, 1) := by decide +kernel
theorem dX2_lowestMember_37 : decode cX2_lowestMember 37 = .ok (.invokevirtual 68, 3) := by decide +kernel
theorem dX2_lowestMember_40 : decode cX2_lowestMember 40 = .ok (.iconst 1, 1) := by decide +kernel
theorem dX2_lowestMember_41 : decode cX2_lowestMember 41 = .ok (.istore 4, 2) := by decide +kernel
theorem dX2_lowestMember_43 : decode cX2_lowestMember 43 = .ok (.iload 4, 2) := by decide +kernel
theorem dX2_lowestMember_45 : decode cX2_lowestMember 45 = .ok (.iload_n 1, 1) := by decide +kernel
theorem dX2_lowestMember_46 : decode cX2_lowestMember 46 = .ok (.if_icmp .ge 15, 3) := by decide +kernel
theorem dX2_lowestMember_49 : decode cX2_lowestMember 49 = .ok (.aload_n 0, 1) := by decide +kernel
theorem dX2_lowestMember_50 : decode cX2_lowestMember 50 = .ok (.iload 4, 2) := by decide +kernel
theorem dX2_lowestMember_52 : decode cX2_lowestMember 52 = .ok (.invokevirtual 72, 3) := by decide +kernel
theorem dX2_lowestMember_55 : decode cX2_lowestMember 55 = .ok (.iinc 4 1, 3) := by decide +kernel
theorem dX2_lowestMember_58 : decode cX2_lowestMember 58 = .ok (.goto (-15), 3) := by decide +kernel
theorem dX2_lowestMember_61 : decode cX2_lowestMember 61 = .ok (.aload_n 0, 1) := by decide +kernel
theorem dX2_lowestMember_62 : decode cX2_lowestMember 62 = .ok (.aload_n 0, 1) := by decide +kernel
theorem dX2_lowestMember_63 : decode cX2_lowestMember 63 = .ok (.getfield 20, 3) := by decide +kernel
theorem dX2_lowestMember_66 : decode cX2_lowestMember 66 = .ok (.iload_n 2, 1) := by decide +kernel
theorem dX2_lowestMember_67 : decode cX2_lowestMember 67 = .ok (.iaload, 1) := by decide +kernel
theorem dX2_lowestMember_68 : decode cX2_lowestMember 68 = .ok (.iload_n 1, 1) := by decide +kernel
theorem dX2_lowestMember_69 : decode cX2_lowestMember 69 = .ok (.iconst 1, 1) := by decide +kernel
theorem dX2_lowestMember_70 : decode cX2_lowestMember 70 = .ok (.isub, 1) := by decide +kernel
theorem dX2_lowestMember_71 : decode cX2_lowestMember 71 = .ok (.invokevirtual 84, 3) := by decide +kernel
theorem dX2_lowestMember_74 : decode cX2_lowestMember 74 = .ok (.ifCond .le 10, 3) := by decide +kernel
theorem dX2_lowestMember_77 : decode cX2_lowestMember 77 = .ok (.aload_n 0, 1) := by decide +kernel
theorem dX2_lowestMember_78 : decode cX2_lowestMember 78 = .ok (.getfield 20, 3) := by decide +kernel
theorem dX2_lowestMember_81 : decode cX2_lowestMember 81 = .ok (.iload_n 2, 1) := by decide +kernel
theorem dX2_lowestMember_82 : decode cX2_lowestMember 82 = .ok (.iaload, 1) := by decide +kernel
theorem dX2_lowestMember_83 : decode cX2_lowestMember 83 = .ok (.ireturn, 1) := by decide +kernel
theorem dX2_lowestMember_84 : decode cX2_lowestMember 84 = .ok (.iinc 2 1, 3) := by decide +kernel
theorem dX2_lowestMember_87 : decode cX2_lowestMember 87 = .ok (.goto (-85), 3) := by decide +kernel
theorem dX2_lowestMember_90 : decode cX2_lowestMember 90 = .ok (.iconst (-1), 1) := by decide +kernel
theorem dX2_lowestMember_91 : decode cX2_lowestMember 91 = .ok (.ireturn, 1) := by decide +kernel
set_option maxRecDepth 20000 in
theorem ggX2_follow_X2_nextMember : GoodIn wsX2_follow wsX2_nextMember := goodIn_r _ [10, 11, 2, 12, 13, 14, 15, 16, 9, 17, 18, 4, 3, 19, 20, 21, 22, 23, 24, 25, 26, 27, 28, 29, 30, 31, 32, 33, 34, 35, 36, 37] (by decide +kernel) (by decide +kernel)
set_option maxRecDepth 20000 in
theorem gX2_follow_X2_nextMember : GoodIn wsX2_follow (wsV RX2 93 RX2 yX2_nextMember wsX2_nextMember) := goodIn_app (goodIn_of _ (by decide +kernel)) ggX2_follow_X2_nextMember
theorem dX2_follow_0 : decode cX2_follow 0 = .ok (.aload_n 0, 1) := by decide +kernel
theorem dX2_follow_1 : decode cX2_follow 1 = .ok (.getfield 27, 3) := by decide +kernel
theorem dX2_follow_4 : decode cX2_follow 4 = .ok (.iconst 0, 1) := by decide +kernel
theorem dX2_follow_5 : decode cX2_follow 5 = .ok (.iload_n 1, 1) := by decide +kernel
theorem dX2_follow_6 : decode cX2_follow 6 = .ok (.iastore, 1) := by decide +kernel
theorem dX2_follow_7 : decode cX2_follow 7 = .ok (.aload_n 0, 1) := by decide +kernel
theorem dX2_follow_8 : decode cX2_follow 8 = .ok (.getfield 33, 3) := by decide +kernel
theorem dX2_follow_11 : decode cX2_follow 11 = .ok (.getfield 90, 3) := by decide +kernel
theorem dX2_follow_14 : decode cX2_follow 14 = .ok (.iload_n 1, 1) := by decide +kernel
theorem dX2_follow_15 : decode cX2_follow 15 = .ok (.iaload, 1) := by decide +kernel
theorem dX2_follow_16 : decode cX2_follow 16 = .ok (.istore_n 3, 1) := by decide +kernel
theorem dX2_follow_17 : decode cX2_follow 17 = .ok (.iconst 1, 1) := by decide +kernel
theorem dX2_follow_18 : decode cX2_follow 18 = .ok (.istore 4, 2) := by decide +kernel
theorem dX2_follow_20 : decode cX2_follow 20 = .ok (.iload 4, 2) := by decide +kernel
theorem dX2_follow_22 : decode cX2_follow 22 = .ok (.iload_n 2, 1) := by decide +kernel
theorem dX2_follow_23 : decode cX2_follow 23 = .ok (.if_icmp .ge 68, 3) := by decide +kernel
theorem dX2_follow_26 : decode cX2_follow 26 = .ok (.aload_n 0, 1) := by decide +kernel
theorem dX2_follow_27 : decode cX2_follow 27 = .ok (.aload_n 0, 1) := by decide +kernel
theorem dX2_follow_28 : decode cX2_follow 28 = .ok (.getfield 33, 3) := by decide +kernel
theorem dX2_follow_31 : decode cX2_follow 31 = .ok (.getfield 87, 3) := by decide +kernel
theorem dX2_follow_34 : decode cX2_follow 34 = .ok (.aload_n 0, 1) := by decide +kernel
theorem dX2_follow_35 : decode cX2_follow 35 = .ok (.getfield 27, 3) := by decide +kernel
theorem dX2_follow_38 : decode cX2_follow 38 = .ok (.iload 4, 2) := by decide +kernel
theorem dX2_follow_40 : decode cX2_follow 40 = .ok (.iconst 1, 1) := by decide +kernel
theorem dX2_follow_41 : decode cX2_follow 41 = .ok (.isub, 1) := by decide +kernel
theorem dX2_follow_42 : decode cX2_follow 42 = .ok (.iaload, 1) := by decide +kernel
theorem dX2_follow_43 : decode cX2_follow 43 = .ok (.iaload, 1) := by decide +kernel
theorem dX2_follow_44 : decode cX2_follow 44 = .ok (.iload_n 2, 1) := by decide +kernel
theorem dX2_follow_45 : decode cX2_follow 45 = .ok (.iconst 1, 1) := by decide +kernel
theorem dX2_follow_46 : decode cX2_follow 46 = .ok (.isub, 1) := by decide +kernel
theorem dX2_follow_47 : decode cX2_follow 47 = .ok (.iload 4, 2) := by decide +kernel
theorem dX2_follow_49 : decode cX2_follow 49 = .ok (.isub, 1) := by decide +kernel
theorem dX2_follow_50 : decode cX2_follow 50 = .ok (.iload_n 3, 1) := by decide +kernel
theorem dX2_follow_51 : decode cX2_follow 51 = .ok (.invokevirtual 93, 3) := by decide +kernel
theorem dX2_follow_54 : decode cX2_follow 54 = .ok (.istore 5, 2) := by decide +kernel
theorem dX2_follow_56 : decode cX2_follow 56 = .ok (.iload 5, 2) := by decide +kernel
theorem dX2_follow_58 : decode cX2_follow 58 = .ok (.iconst (-1), 1) := by decide +kernel
theorem dX2_follow_59 : decode cX2_follow 59 = .ok (.if_icmp .ne 4, 3) := by decide +kernel
theorem dX2_follow_62 : decode cX2_follow 62 = .ok (.return_, 1) := by decide +kernel
theorem dX2_follow_63 : decode cX2_follow 63 = .ok (.aload_n 0, 1) := by decide +kernel
theorem dX2_follow_64 : decode cX2_follow 64 = .ok (.getfield 27, 3) := by decide +kernel
theorem dX2_follow_67 : decode cX2_follow 67 = .ok (.iload 4, 2) := by decide +kernel
theorem dX2_follow_69 : decode cX2_follow 69 = .ok (.iload 5, 2) := by decide +kernel
theorem dX2_follow_71 : decode cX2_follow 71 = .ok (.iastore, 1) := by decide +kernel
theorem dX2_follow_72 : decode cX2_follow 72 = .ok (.iload_n 3, 1) := by decide +kernel
theorem dX2_follow_73 : decode cX2_follow 73 = .ok (.aload_n 0, 1) := by decide +kernel
theorem dX2_follow_74 : decode cX2_follow 74 = .ok (.getfield 33, 3) := by decide +kernel
theorem dX2_follow_77 : decode cX2_follow 77 = .ok (.getfield 90, 3) := by decide +kernel
theorem dX2_follow_80 : decode cX2_follow 80 = .ok (.iload 5, 2) := by decide +kernel
theorem dX2_follow_82 : decode cX2_follow 82 = .ok (.iaload, 1) := by decide +kernel
theorem dX2_follow_83 : decode cX2_follow 83 = .ok (.iadd, 1) := by decide +kernel
theorem dX2_follow_84 : decode cX2_follow 84 = .ok (.istore_n 3, 1) := by decide +kernel
theorem dX2_follow_85 : decode cX2_follow 85 = .ok (.iinc 4 1, 3) := by decide +kernel
theorem dX2_follow_88 : decode cX2_follow 88 = .ok (.goto (-68), 3) := by decide +kernel
theorem dX2_follow_91 : decode cX2_follow 91 = .ok (.aload_n 0, 1) := by decide +kernel
theorem dX2_follow_92 : decode cX2_follow 92 = .ok (.iload_n 2, 1) := by decide +kernel
theorem dX2_follow_93 : decode cX2_follow 93 = .ok (.putfield 30, 3) := by decide +kernel
theorem dX2_follow_96 : decode cX2_follow 96 = .ok (.return_, 1) := by decide +kernel
set_option maxRecDepth 20000 in
theorem ggX2_nextMember_X2_reachBy : GoodIn wsX2_nextMember wsX2_reachBy := goodIn_r _ [9, 10, 2, 11, 12, 13, 14, 15, 16, 17, 18, 19, 20, 21, 22, 23, 24, 25, 26, 27, 28, 29, 30, 31] (by decide +kernel) (by decide +kernel)
set_option maxRecDepth 20000 in
theorem gX2_nextMember_X2_reachBy : GoodIn wsX2_nextMember (wsV RX2 84 RX2 yX2_reachBy wsX2_reachBy) := goodIn_app (goodIn_of _ (by decide +kernel)) ggX2_nextMember_X2_reachBy
theorem dX2_nextMember_0 : decode cX2_nextMember 0 = .ok (.iconst 0, 1) := by decide +kernel
theorem dX2_nextMember_1 : decode cX2_nextMember 1 = .ok (.istore 4, 2) := by decide +kernel
theorem dX2_nextMember_3 : decode cX2_nextMember 3 = .ok (.iload 4, 2) := by decide +kernel
theorem dX2_nextMember_5 : decode cX2_nextMember 5 = .ok (.aload_n 0, 1) := by decide +kernel
theorem dX2_nextMember_6 : decode cX2_nextMember 6 = .ok (.getfield 23, 3) := by decide +kernel
theorem dX2_nextMember_9 : decode cX2_nextMember 9 = .ok (.if_icmp .ge 63, 3) := by decide +kernel
theorem dX2_nextMember_12 : decode cX2_nextMember 12 = .ok (.aload_n 0, 1) := by decide +kernel
theorem dX2_nextMember_13 : decode cX2_nextMember 13 = .ok (.getfield 33, 3) := by decide +kernel
theorem dX2_nextMember_16 : decode cX2_nextMember 16 = .ok (.getfield 81, 3) := by decide +kernel
theorem dX2_nextMember_19 : decode cX2_nextMember 19 = .ok (.aload_n 0, 1) := by decide +kernel
theorem dX2_nextMember_20 : decode cX2_nextMember 20 = .ok (.getfield 20, 3) := by decide +kernel
theorem dX2_nextMember_23 : decode cX2_nextMember 23 = .ok (.iload 4, 2) := by decide +kernel
theorem dX2_nextMember_25 : decode cX2_nextMember 25 = .ok (.iaload, 1) := by decide +kernel
theorem dX2_nextMember_26 : decode cX2_nextMember 26 = .ok (.iaload, 1) := by decide +kernel
theorem dX2_nextMember_27 : decode cX2_nextMember 27 = .ok (.iload_n 1, 1) := by decide +kernel
theorem dX2_nextMember_28 : decode cX2_nextMember 28 = .ok (.if_icmp .ne 38, 3) := by decide +kernel
theorem dX2_nextMember_31 : decode cX2_nextMember 31 = .ok (.aload_n 0, 1) := by decide +kernel
theorem dX2_nextMember_32 : decode cX2_nextMember 32 = .ok (.aload_n 0, 1) := by decide +kernel
theorem dX2_nextMember_33 : decode cX2_nextMember 33 = .ok (.getfield 20, 3) := by decide +kernel
theorem dX2_nextMember_36 : decode cX2_nextMember 36 = .ok (.iload 4, 2) := by decide +kernel
theorem dX2_nextMember_38 : decode cX2_nextMember 38 = .ok (.iaload, 1) := by decide +kernel
theorem dX2_nextMember_39 : decode cX2_nextMember 39 = .ok (.iload_n 2, 1) := by decide +kernel
theorem dX2_nextMember_40 : decode cX2_nextMember 40 = .ok (.invokevirtual 84, 3) := by decide +kernel
theorem dX2_nextMember_43 : decode cX2_nextMember 43 = .ok (.istore 5, 2) := by decide +kernel
theorem dX2_nextMember_45 : decode cX2_nextMember 45 = .ok (.iload 5, 2) := by decide +kernel
theorem dX2_nextMember_47 : decode cX2_nextMember 47 = .ok (.iconst (-1), 1) := by decide +kernel
theorem dX2_nextMember_48 : decode cX2_nextMember 48 = .ok (.if_icmp .eq 18, 3) := by decide +kernel
theorem dX2_nextMember_51 : decode cX2_nextMember 51 = .ok (.iload_n 3, 1) := by decide +kernel
theorem dX2_nextMember_52 : decode cX2_nextMember 52 = .ok (.iload 5, 2) := by decide +kernel
theorem dX2_nextMember_54 : decode cX2_nextMember 54 = .ok (.iadd, 1) := by decide +kernel
theorem dX2_nextMember_55 : decode cX2_nextMember 55 = .ok (.ifCond .le 11, 3) := by decide +kernel
theorem dX2_nextMember_58 : decode cX2_nextMember 58 = .ok (.aload_n 0, 1) := by decide +kernel
theorem dX2_nextMember_59 : decode cX2_nextMember 59 = .ok (.getfield 20, 3) := by decide +kernel
theorem dX2_nextMember_62 : decode cX2_nextMember 62 = .ok (.iload 4, 2) := by decide +kernel
theorem dX2_nextMember_64 : decode cX2_nextMember 64 = .ok (.iaload, 1) := by decide +kernel
theorem dX2_nextMember_65 : decode cX2_nextMember 65 = .ok (.ireturn, 1) := by decide +kernel
theorem dX2_nextMember_66 : decode cX2_nextMember 66 = .ok (.iinc 4 1, 3) := by decide +kernel
theorem dX2_nextMember_69 : decode cX2_nextMember 69 = .ok (.goto (-66), 3) := by decide +kernel
theorem dX2_nextMember_72 : decode cX2_nextMember 72 = .ok (.iconst (-1), 1) := by decide +kernel
theorem dX2_nextMember_73 : decode cX2_nextMember 73 = .ok (.ireturn, 1) := by decide +kernel
theorem dX3_init_0 : decode cX3_init 0 = .ok (.aload_n 0, 1) := by decide +kernel
theorem dX3_init_1 : decode cX3_init 1 = .ok (.invokespecial 3, 3) := by decide +kernel
theorem dX3_init_4 : decode cX3_init 4 = .ok (.aload_n 0, 1) := by decide +kernel
theorem dX3_init_5 : decode cX3_init 5 = .ok (.bipush 100, 2) := by decide +kernel
theorem dX3_init_7 : decode cX3_init 7 = .ok (.newarray .int, 2) := by decide +kernel
theorem dX3_init_9 : decode cX3_init 9 = .ok (.putfield 9, 3) := by decide +kernel
theorem dX3_init_12 : decode cX3_init 12 = .ok (.aload_n 0, 1) := by decide +kernel
theorem dX3_init_13 : decode cX3_init 13 = .ok (.bipush 60, 2) := by decide +kernel
theorem dX3_init_15 : decode cX3_init 15 = .ok (.newarray .int, 2) := by decide +kernel
theorem dX3_init_17 : decode cX3_init 17 = .ok (.putfield 15, 3) := by decide +kernel
theorem dX3_init_20 : decode cX3_init 20 = .ok (.aload_n 0, 1) := by decide +kernel
theorem dX3_init_21 : decode cX3_init 21 = .ok (.bipush 60, 2) := by decide +kernel
theorem dX3_init_23 : decode cX3_init 23 = .ok (.newarray .int, 2) := by decide +kernel
theorem dX3_init_25 : decode cX3_init 25 = .ok (.putfield 18, 3) := by decide +kernel
theorem dX3_init_28 : decode cX3_init 28 = .ok (.aload_n 0, 1) := by decide +kernel
theorem dX3_init_29 : decode cX3_init 29 = .ok (.aload_n 1, 1) := by decide +kernel
theorem dX3_init_30 : decode cX3_init 30 = .ok (.putfield 21, 3) := by decide +kernel
theorem dX3_init_33 : decode cX3_init 33 = .ok (.return_, 1) := by decide +kernel
set_option maxRecDepth 20000 in
theorem ggX3_follow_X3_breakAndSort : GoodIn wsX3_follow wsX3_breakAndSort := goodIn_r _ [8, 1, 9, 10, 11, 12, 13, 14, 15, 16, 17, 18, 19, 20, 21, 22, 7, 23, 24, 25, 3, 65, 66, 67, 68, 69, 70, 71, 72, 73, 74, 75, 76, 77, 78, 79, 80] (by decide +kernel) (by decide +kernel)
set_option maxRecDepth 20000 in
theorem gX3_follow_X3_breakAndSort : GoodIn wsX3_follow (wsV RX3 25 RX3 yX3_breakAndSort wsX3_breakAndSort) := goodIn_app (goodIn_of _ (by decide +kernel)) ggX3_follow_X3_breakAndSort
set_option maxRecDepth 20000 in
theorem ggX3_follow_X1_putEarliest : GoodIn wsX3_follow wsX1_putEarliest := goodIn_r _ [29, 30, 31, 32, 69, 70, 71, 72, 73, 74, 75, 76, 77, 78, 79, 80] (by decide +kernel) (by decide +kernel)
set_option maxRecDepth 20000 in
theorem gX3_follow_X1_putEarliest : GoodIn wsX3_follow (wsV RX3 29 RX1 yX1_putEarliest wsX1_putEarliest) := goodIn_app (goodIn_of _ (by decide +kernel)) ggX3_follow_X1_putEarliest
set_option maxRecDepth 20000 in
theorem ggX3_follow_X1_settle : GoodIn wsX3_follow wsX1_settle := goodIn_r _ [36, 30, 37, 38, 39, 15, 40, 41, 19, 18, 42, 43, 44, 45, 46, 47, 48, 49, 50, 51, 52, 13, 14, 16, 17, 69, 70, 71, 72, 73, 74, 75, 76, 77, 78, 79, 80] (by decide +kernel) (by decide +kernel)
set_option maxRecDepth 20000 in
theorem gX3_follow_X1_settle : GoodIn wsX3_follow (wsV RX3 35 RX1 yX1_settle wsX1_settle) := goodIn_app (goodIn_of _ (by decide +kernel)) ggX3_follow_X1_settle
set_option maxRecDepth 20000 in
theorem ggX3_follow_X3_tryToKeep : GoodIn wsX3_follow wsX3_tryToKeep := goodIn_r _ [56, 2, 1, 57, 58, 24, 25, 59, 60, 61, 62, 63, 64, 11, 33, 34, 35, 15, 36, 30, 37, 38, 39, 40, 41, 19, 18, 42, 43, 44, 45, 46, 47, 48, 49, 50, 51, 52, 13, 14, 16, 17, 65, 66, 67, 68, 69, 70, 71, 72, 73, 74, 75, 76, 77, 78, 79, 80] (by decide +kernel) (by decide +kernel)
set_option maxRecDepth 20000 in
theorem gX3_follow_X3_tryToKeep : GoodIn wsX3_follow (wsV RX3 39 RX3 yX3_tryToKeep wsX3_tryToKeep) := goodIn_app (goodIn_of _ (by decide +kernel)) ggX3_follow_X3_tryToKeep
theorem dX3_follow_0 : decode cX3_follow 0 = .ok (.aload_n 0, 1) := by decide +kernel
theorem dX3_follow_1 : decode cX3_follow 1 = .ok (.invokevirtual 25, 3) := by decide +kernel
theorem dX3_follow_4 : decode cX3_follow 4 = .ok (.istore_n 2, 1) := by decide +kernel
theorem dX3_follow_5 : decode cX3_follow 5 = .ok (.aload_n 0, 1) := by decide +kernel
theorem dX3_follow_6 : decode cX3_follow 6 = .ok (.getfield 21, 3) := by decide +kernel
theorem dX3_follow_9 : decode cX3_follow 9 = .ok (.aload_n 0, 1) := by decide +kernel
theorem dX3_follow_10 : decode cX3_follow 10 = .ok (.getfield 15, 3) := by decide +kernel
theorem dX3_follow_13 : decode cX3_follow 13 = .ok (.invokevirtual 29, 3) := by decide +kernel
theorem dX3_follow_16 : decode cX3_follow 16 = .ok (.aload_n 0, 1) := by decide +kernel
theorem dX3_follow_17 : decode cX3_follow 17 = .ok (.getfield 21, 3) := by decide +kernel
theorem dX3_follow_20 : decode cX3_follow 20 = .ok (.aload_n 0, 1) := by decide +kernel
theorem dX3_follow_21 : decode cX3_follow 21 = .ok (.getfield 15, 3) := by decide +kernel
theorem dX3_follow_24 : decode cX3_follow 24 = .ok (.invokevirtual 35, 3) := by decide +kernel
theorem dX3_follow_27 : decode cX3_follow 27 = .ok (.ifCond .ne 4, 3) := by decide +kernel
theorem dX3_follow_30 : decode cX3_follow 30 = .ok (.return_, 1) := by decide +kernel
theorem dX3_follow_31 : decode cX3_follow 31 = .ok (.iconst 0, 1) := by decide +kernel
theorem dX3_follow_32 : decode cX3_follow 32 = .ok (.istore_n 3, 1) := by decide +kernel
theorem dX3_follow_33 : decode cX3_follow 33 = .ok (.iload_n 3, 1) := by decide +kernel
theorem dX3_follow_34 : decode cX3_follow 34 = .ok (.iload_n 2, 1) := by decide +kernel
theorem dX3_follow_35 : decode cX3_follow 35 = .ok (.if_icmp .ge 20, 3) := by decide +kernel
theorem dX3_follow_38 : decode cX3_follow 38 = .ok (.aload_n 0, 1) := by decide +kernel
theorem dX3_follow_39 : decode cX3_follow 39 = .ok (.aload_n 0, 1) := by decide +kernel
theorem dX3_follow_40 : decode cX3_follow 40 = .ok (.getfield 9, 3) := by decide +kernel
theorem dX3_follow_43 : decode cX3_follow 43 = .ok (.iload_n 3, 1) := by decide +kernel
theorem dX3_follow_44 : decode cX3_follow 44 = .ok (.iaload, 1) := by decide +kernel
theorem dX3_follow_45 : decode cX3_follow 45 = .ok (.iload_n 1, 1) := by decide +kernel
theorem dX3_follow_46 : decode cX3_follow 46 = .ok (.invokevirtual 39, 3) := by decide +kernel
theorem dX3_follow_49 : decode cX3_follow 49 = .ok (.iinc 3 1, 3) := by decide +kernel
theorem dX3_follow_52 : decode cX3_follow 52 = .ok (.goto (-19), 3) := by decide +kernel
theorem dX3_follow_55 : decode cX3_follow 55 = .ok (.return_, 1) := by decide +kernel
set_option maxRecDepth 20000 in
theorem ggX3_breakAndSort_X1_joinsThere : GoodIn wsX3_breakAndSort wsX1_joinsThere := goodIn_r _ [9, 10, 11, 12, 25, 26, 27, 28, 29, 30, 31, 32, 33, 34, 35, 36] (by decide +kernel) (by decide +kernel)
set_option maxRecDepth 20000 in
theorem gX3_breakAndSort_X1_joinsThere : GoodIn wsX3_breakAndSort (wsV RX3 54 RX1 yX1_joinsThere wsX1_joinsThere) := goodIn_app (goodIn_of _ (by decide +kernel)) ggX3_breakAndSort_X1_joinsThere
set_option maxRecDepth 20000 in
theorem ggX3_breakAndSort_X3_insert : GoodIn wsX3_breakAndSort wsX3_insert := goodIn_r _ [17, 1, 18, 19, 20, 21, 22, 23, 24, 25, 26, 27, 28, 29, 30, 31, 32, 33, 34, 35, 36] (by decide +kernel) (by decide +kernel)
set_option maxRecDepth 20000 in
theorem gX3_breakAndSort_X3_insert : GoodIn wsX3_breakAndSort (wsV RX3 58 RX3 yX3_insert wsX3_insert) := goodIn_app (goodIn_of _ (by decide +kernel)) ggX3_breakAndSort_X3_insert
theorem dX3_breakAndSort_0 : decode cX3_breakAndSort 0 = .ok (.iconst 0, 1) := by decide +kernel
theorem dX3_breakAndSort_1 : decode cX3_breakAndSort 1 = .ok (.istore_n 1, 1) := by decide +kernel
theorem dX3_breakAndSort_2 : decode cX3_breakAndSort 2 = .ok (.iconst 0, 1) := by decide +kernel
theorem dX3_breakAndSort_3 : decode cX3_breakAndSort 3 = .ok (.istore_n 2, 1) := by decide +kernel
theorem dX3_breakAndSort_4 : decode cX3_breakAndSort 4 = .ok (.iload_n 2, 1) := by decide +kernel
theorem dX3_breakAndSort_5 : decode cX3_breakAndSort 5 = .ok (.aload_n 0, 1) := by decide +kernel
theorem dX3_breakAndSort_6 : decode cX3_breakAndSort 6 = .ok (.getfield 21, 3) := by decide +kernel
theorem dX3_breakAndSort_9 : decode cX3_breakAndSort 9 = .ok (.getfield 43, 3) := by decide +kernel
theorem dX3_breakAndSort_12 : decode cX3_breakAndSort 12 = .ok (.if_icmp .ge 52, 3) := by decide +kernel
theorem dX3_breakAndSort_15 : decode cX3_breakAndSort 15 = .ok (.aload_n 0, 1) := by decide +kernel
theorem dX3_breakAndSort_16 : decode cX3_breakAndSort 16 = .ok (.getfield 21, 3) := by decide +kernel
theorem dX3_breakAndSort_19 : decode cX3_breakAndSort 19 = .ok (.getfield 47, 3) := by decide +kernel
theorem dX3_breakAndSort_22 : decode cX3_breakAndSort 22 = .ok (.iload_n 2, 1) := by decide +kernel
theorem dX3_breakAndSort_23 : decode cX3_breakAndSort 23 = .ok (.iaload, 1) := by decide +kernel
theorem dX3_breakAndSort_24 : decode cX3_breakAndSort 24 = .ok (.iconst 2, 1) := by decide +kernel
theorem dX3_breakAndSort_25 : decode cX3_breakAndSort 25 = .ok (.if_icmp .ne 33, 3) := by decide +kernel
theorem dX3_breakAndSort_28 : decode cX3_breakAndSort 28 = .ok (.aload_n 0, 1) := by decide +kernel
theorem dX3_breakAndSort_29 : decode cX3_breakAndSort 29 = .ok (.getfield 21, 3) := by decide +kernel
theorem dX3_breakAndSort_32 : decode cX3_breakAndSort 32 = .ok (.getfield 50, 3) := by decide +kernel
theorem dX3_breakAndSort_35 : decode cX3_breakAndSort 35 = .ok (.iload_n 2, 1) := by decide +kernel
theorem dX3_breakAndSort_36 : decode cX3_breakAndSort 36 = .ok (.iconst 0, 1) := by decide +kernel
theorem dX3_breakAndSort_37 : decode cX3_breakAndSort 37 = .ok (.bastore, 1) := by decide +kernel
theorem dX3_breakAndSort_38 : decode cX3_breakAndSort 38 = .ok (.aload_n 0, 1) := by decide +kernel
theorem dX3_breakAndSort_39 : decode cX3_breakAndSort 39 = .ok (.getfield 21, 3) := by decide +kernel
theorem dX3_breakAndSort_42 : decode cX3_breakAndSort 42 = .ok (.iload_n 2, 1) := by decide +kernel
theorem dX3_breakAndSort_43 : decode cX3_breakAndSort 43 = .ok (.invokevirtual 54, 3) := by decide +kernel
theorem dX3_breakAndSort_46 : decode cX3_breakAndSort 46 = .ok (.ifCond .eq 12, 3) := by decide +kernel
theorem dX3_breakAndSort_49 : decode cX3_breakAndSort 49 = .ok (.aload_n 0, 1) := by decide +kernel
theorem dX3_breakAndSort_50 : decode cX3_breakAndSort 50 = .ok (.iload_n 2, 1) := by decide +kernel
theorem dX3_breakAndSort_51 : decode cX3_breakAndSort 51 = .ok (.iload_n 1, 1) := by decide +kernel
theorem dX3_breakAndSort_52 : decode cX3_breakAndSort 52 = .ok (.invokevirtual 58, 3) := by decide +kernel
theorem dX3_breakAndSort_55 : decode cX3_breakAndSort 55 = .ok (.iinc 1 1, 3) := by decide +kernel
theorem dX3_breakAndSort_58 : decode cX3_breakAndSort 58 = .ok (.iinc 2 1, 3) := by decide +kernel
theorem dX3_breakAndSort_61 : decode cX3_breakAndSort 61 = .ok (.goto (-57), 3) := by decide +kernel
theorem dX3_breakAndSort_64 : decode cX3_breakAndSort 64 = .ok (.iload_n 1, 1) := by decide +kernel
theorem dX3_breakAndSort_65 : decode cX3_breakAndSort 65 = .ok (.ireturn, 1) := by decide +kernel
theorem dX3_insert_0 : decode cX3_insert 0 = .ok (.iload_n 2, 1) := by decide +kernel
theorem dX3_insert_1 : decode cX3_insert 1 = .ok (.istore_n 3, 1) := by decide +kernel
theorem dX3_insert_2 : decode cX3_insert 2 = .ok (.iload_n 3, 1) := by decide +kernel
theorem dX3_insert_3 : decode cX3_insert 3 = .ok (.ifCond .le 67, 3) := by decide +kernel
theorem dX3_insert_6 : decode cX3_insert 6 = .ok (.aload_n 0, 1) := by decide +kernel
theorem dX3_insert_7 : decode cX3_insert 7 = .ok (.getfield 21, 3) := by decide +kernel
theorem dX3_insert_10 : decode cX3_insert 10 = .ok (.getfield 61, 3) := by decide +kernel
theorem dX3_insert_13 : decode cX3_insert 13 = .ok (.aload_n 0, 1) := by decide +kernel
theorem dX3_insert_14 : decode cX3_insert 14 = .ok (.getfield 21, 3) := by decide +kernel
theorem dX3_insert_17 : decode cX3_insert 17 = .ok (.getfield 64, 3) := by decide +kernel
theorem dX3_insert_20 : decode cX3_insert 20 = .ok (.aload_n 0, 1) := by decide +kernel
theorem dX3_insert_21 : decode cX3_insert 21 = .ok (.getfield 9, 3) := by decide +kernel
