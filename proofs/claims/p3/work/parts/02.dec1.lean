theorem dX3_insert_24 : decode cX3_insert 24 = .ok (.iload_n 3, 1) := by decide +kernel
theorem dX3_insert_25 : decode cX3_insert 25 = .ok (.iconst 1, 1) := by decide +kernel
theorem dX3_insert_26 : decode cX3_insert 26 = .ok (.isub, 1) := by decide +kernel
theorem dX3_insert_27 : decode cX3_insert 27 = .ok (.iaload, 1) := by decide +kernel
theorem dX3_insert_28 : decode cX3_insert 28 = .ok (.iaload, 1) := by decide +kernel
theorem dX3_insert_29 : decode cX3_insert 29 = .ok (.iaload, 1) := by decide +kernel
theorem dX3_insert_30 : decode cX3_insert 30 = .ok (.aload_n 0, 1) := by decide +kernel
theorem dX3_insert_31 : decode cX3_insert 31 = .ok (.getfield 21, 3) := by decide +kernel
theorem dX3_insert_34 : decode cX3_insert 34 = .ok (.getfield 61, 3) := by decide +kernel
theorem dX3_insert_37 : decode cX3_insert 37 = .ok (.aload_n 0, 1) := by decide +kernel
theorem dX3_insert_38 : decode cX3_insert 38 = .ok (.getfield 21, 3) := by decide +kernel
theorem dX3_insert_41 : decode cX3_insert 41 = .ok (.getfield 64, 3) := by decide +kernel
theorem dX3_insert_44 : decode cX3_insert 44 = .ok (.iload_n 1, 1) := by decide +kernel
theorem dX3_insert_45 : decode cX3_insert 45 = .ok (.iaload, 1) := by decide +kernel
theorem dX3_insert_46 : decode cX3_insert 46 = .ok (.iaload, 1) := by decide +kernel
theorem dX3_insert_47 : decode cX3_insert 47 = .ok (.if_icmp .le 23, 3) := by decide +kernel
theorem dX3_insert_50 : decode cX3_insert 50 = .ok (.aload_n 0, 1) := by decide +kernel
theorem dX3_insert_51 : decode cX3_insert 51 = .ok (.getfield 9, 3) := by decide +kernel
theorem dX3_insert_54 : decode cX3_insert 54 = .ok (.iload_n 3, 1) := by decide +kernel
theorem dX3_insert_55 : decode cX3_insert 55 = .ok (.aload_n 0, 1) := by decide +kernel
theorem dX3_insert_56 : decode cX3_insert 56 = .ok (.getfield 9, 3) := by decide +kernel
theorem dX3_insert_59 : decode cX3_insert 59 = .ok (.iload_n 3, 1) := by decide +kernel
theorem dX3_insert_60 : decode cX3_insert 60 = .ok (.iconst 1, 1) := by decide +kernel
theorem dX3_insert_61 : decode cX3_insert 61 = .ok (.isub, 1) := by decide +kernel
theorem dX3_insert_62 : decode cX3_insert 62 = .ok (.iaload, 1) := by decide +kernel
theorem dX3_insert_63 : decode cX3_insert 63 = .ok (.iastore, 1) := by decide +kernel
theorem dX3_insert_64 : decode cX3_insert 64 = .ok (.iinc 3 (-1), 3) := by decide +kernel
theorem dX3_insert_67 : decode cX3_insert 67 = .ok (.goto (-65), 3) := by decide +kernel
theorem dX3_insert_70 : decode cX3_insert 70 = .ok (.aload_n 0, 1) := by decide +kernel
theorem dX3_insert_71 : decode cX3_insert 71 = .ok (.getfield 9, 3) := by decide +kernel
theorem dX3_insert_74 : decode cX3_insert 74 = .ok (.iload_n 3, 1) := by decide +kernel
theorem dX3_insert_75 : decode cX3_insert 75 = .ok (.iload_n 1, 1) := by decide +kernel
theorem dX3_insert_76 : decode cX3_insert 76 = .ok (.iastore, 1) := by decide +kernel
theorem dX3_insert_77 : decode cX3_insert 77 = .ok (.return_, 1) := by decide +kernel
set_option maxRecDepth 20000 in
theorem ggX3_tryToKeep_X1_settle : GoodIn wsX3_tryToKeep wsX1_settle := goodIn_r _ [18, 19, 20, 21, 22, 17, 23, 24, 25, 26, 27, 28, 29, 30, 31, 32, 33, 34, 35, 36, 37, 38, 39, 40, 41, 46, 47, 48, 49, 50, 51, 52, 53, 54, 55, 56, 57] (by decide +kernel) (by decide +kernel)
set_option maxRecDepth 20000 in
theorem gX3_tryToKeep_X1_settle : GoodIn wsX3_tryToKeep (wsV RX3 35 RX1 yX1_settle wsX1_settle) := goodIn_app (goodIn_of _ (by decide +kernel)) ggX3_tryToKeep_X1_settle
theorem dX3_tryToKeep_0 : decode cX3_tryToKeep 0 = .ok (.aload_n 0, 1) := by decide +kernel
theorem dX3_tryToKeep_1 : decode cX3_tryToKeep 1 = .ok (.getfield 15, 3) := by decide +kernel
theorem dX3_tryToKeep_4 : decode cX3_tryToKeep 4 = .ok (.aload_n 0, 1) := by decide +kernel
theorem dX3_tryToKeep_5 : decode cX3_tryToKeep 5 = .ok (.getfield 21, 3) := by decide +kernel
theorem dX3_tryToKeep_8 : decode cX3_tryToKeep 8 = .ok (.getfield 67, 3) := by decide +kernel
theorem dX3_tryToKeep_11 : decode cX3_tryToKeep 11 = .ok (.iload_n 1, 1) := by decide +kernel
theorem dX3_tryToKeep_12 : decode cX3_tryToKeep 12 = .ok (.iaload, 1) := by decide +kernel
theorem dX3_tryToKeep_13 : decode cX3_tryToKeep 13 = .ok (.iaload, 1) := by decide +kernel
theorem dX3_tryToKeep_14 : decode cX3_tryToKeep 14 = .ok (.aload_n 0, 1) := by decide +kernel
theorem dX3_tryToKeep_15 : decode cX3_tryToKeep 15 = .ok (.getfield 21, 3) := by decide +kernel
theorem dX3_tryToKeep_18 : decode cX3_tryToKeep 18 = .ok (.getfield 70, 3) := by decide +kernel
theorem dX3_tryToKeep_21 : decode cX3_tryToKeep 21 = .ok (.iload_n 1, 1) := by decide +kernel
theorem dX3_tryToKeep_22 : decode cX3_tryToKeep 22 = .ok (.iaload, 1) := by decide +kernel
theorem dX3_tryToKeep_23 : decode cX3_tryToKeep 23 = .ok (.iadd, 1) := by decide +kernel
theorem dX3_tryToKeep_24 : decode cX3_tryToKeep 24 = .ok (.aload_n 0, 1) := by decide +kernel
theorem dX3_tryToKeep_25 : decode cX3_tryToKeep 25 = .ok (.getfield 21, 3) := by decide +kernel
theorem dX3_tryToKeep_28 : decode cX3_tryToKeep 28 = .ok (.getfield 61, 3) := by decide +kernel
theorem dX3_tryToKeep_31 : decode cX3_tryToKeep 31 = .ok (.aload_n 0, 1) := by decide +kernel
theorem dX3_tryToKeep_32 : decode cX3_tryToKeep 32 = .ok (.getfield 21, 3) := by decide +kernel
theorem dX3_tryToKeep_35 : decode cX3_tryToKeep 35 = .ok (.getfield 64, 3) := by decide +kernel
theorem dX3_tryToKeep_38 : decode cX3_tryToKeep 38 = .ok (.iload_n 1, 1) := by decide +kernel
theorem dX3_tryToKeep_39 : decode cX3_tryToKeep 39 = .ok (.iaload, 1) := by decide +kernel
theorem dX3_tryToKeep_40 : decode cX3_tryToKeep 40 = .ok (.iaload, 1) := by decide +kernel
theorem dX3_tryToKeep_41 : decode cX3_tryToKeep 41 = .ok (.iload_n 2, 1) := by decide +kernel
theorem dX3_tryToKeep_42 : decode cX3_tryToKeep 42 = .ok (.iadd, 1) := by decide +kernel
theorem dX3_tryToKeep_43 : decode cX3_tryToKeep 43 = .ok (.if_icmp .le 4, 3) := by decide +kernel
theorem dX3_tryToKeep_46 : decode cX3_tryToKeep 46 = .ok (.return_, 1) := by decide +kernel
theorem dX3_tryToKeep_47 : decode cX3_tryToKeep 47 = .ok (.aload_n 0, 1) := by decide +kernel
theorem dX3_tryToKeep_48 : decode cX3_tryToKeep 48 = .ok (.getfield 15, 3) := by decide +kernel
theorem dX3_tryToKeep_51 : decode cX3_tryToKeep 51 = .ok (.iconst 0, 1) := by decide +kernel
theorem dX3_tryToKeep_52 : decode cX3_tryToKeep 52 = .ok (.aload_n 0, 1) := by decide +kernel
theorem dX3_tryToKeep_53 : decode cX3_tryToKeep 53 = .ok (.getfield 18, 3) := by decide +kernel
theorem dX3_tryToKeep_56 : decode cX3_tryToKeep 56 = .ok (.iconst 0, 1) := by decide +kernel
theorem dX3_tryToKeep_57 : decode cX3_tryToKeep 57 = .ok (.aload_n 0, 1) := by decide +kernel
theorem dX3_tryToKeep_58 : decode cX3_tryToKeep 58 = .ok (.getfield 21, 3) := by decide +kernel
theorem dX3_tryToKeep_61 : decode cX3_tryToKeep 61 = .ok (.getfield 73, 3) := by decide +kernel
theorem dX3_tryToKeep_64 : decode cX3_tryToKeep 64 = .ok (.invokestatic 76, 3) := by decide +kernel
theorem dX3_tryToKeep_67 : decode cX3_tryToKeep 67 = .ok (.aload_n 0, 1) := by decide +kernel
theorem dX3_tryToKeep_68 : decode cX3_tryToKeep 68 = .ok (.getfield 21, 3) := by decide +kernel
theorem dX3_tryToKeep_71 : decode cX3_tryToKeep 71 = .ok (.getfield 50, 3) := by decide +kernel
theorem dX3_tryToKeep_74 : decode cX3_tryToKeep 74 = .ok (.iload_n 1, 1) := by decide +kernel
theorem dX3_tryToKeep_75 : decode cX3_tryToKeep 75 = .ok (.iconst 1, 1) := by decide +kernel
theorem dX3_tryToKeep_76 : decode cX3_tryToKeep 76 = .ok (.bastore, 1) := by decide +kernel
theorem dX3_tryToKeep_77 : decode cX3_tryToKeep 77 = .ok (.aload_n 0, 1) := by decide +kernel
theorem dX3_tryToKeep_78 : decode cX3_tryToKeep 78 = .ok (.getfield 21, 3) := by decide +kernel
theorem dX3_tryToKeep_81 : decode cX3_tryToKeep 81 = .ok (.aload_n 0, 1) := by decide +kernel
theorem dX3_tryToKeep_82 : decode cX3_tryToKeep 82 = .ok (.getfield 18, 3) := by decide +kernel
theorem dX3_tryToKeep_85 : decode cX3_tryToKeep 85 = .ok (.invokevirtual 35, 3) := by decide +kernel
theorem dX3_tryToKeep_88 : decode cX3_tryToKeep 88 = .ok (.ifCond .eq 26, 3) := by decide +kernel
theorem dX3_tryToKeep_91 : decode cX3_tryToKeep 91 = .ok (.aload_n 0, 1) := by decide +kernel
theorem dX3_tryToKeep_92 : decode cX3_tryToKeep 92 = .ok (.getfield 18, 3) := by decide +kernel
theorem dX3_tryToKeep_95 : decode cX3_tryToKeep 95 = .ok (.iconst 0, 1) := by decide +kernel
theorem dX3_tryToKeep_96 : decode cX3_tryToKeep 96 = .ok (.aload_n 0, 1) := by decide +kernel
theorem dX3_tryToKeep_97 : decode cX3_tryToKeep 97 = .ok (.getfield 15, 3) := by decide +kernel
theorem dX3_tryToKeep_100 : decode cX3_tryToKeep 100 = .ok (.iconst 0, 1) := by decide +kernel
theorem dX3_tryToKeep_101 : decode cX3_tryToKeep 101 = .ok (.aload_n 0, 1) := by decide +kernel
theorem dX3_tryToKeep_102 : decode cX3_tryToKeep 102 = .ok (.getfield 21, 3) := by decide +kernel
theorem dX3_tryToKeep_105 : decode cX3_tryToKeep 105 = .ok (.getfield 73, 3) := by decide +kernel
theorem dX3_tryToKeep_108 : decode cX3_tryToKeep 108 = .ok (.invokestatic 76, 3) := by decide +kernel
theorem dX3_tryToKeep_111 : decode cX3_tryToKeep 111 = .ok (.goto 13, 3) := by decide +kernel
theorem dX3_tryToKeep_114 : decode cX3_tryToKeep 114 = .ok (.aload_n 0, 1) := by decide +kernel
theorem dX3_tryToKeep_115 : decode cX3_tryToKeep 115 = .ok (.getfield 21, 3) := by decide +kernel
theorem dX3_tryToKeep_118 : decode cX3_tryToKeep 118 = .ok (.getfield 50, 3) := by decide +kernel
theorem dX3_tryToKeep_121 : decode cX3_tryToKeep 121 = .ok (.iload_n 1, 1) := by decide +kernel
theorem dX3_tryToKeep_122 : decode cX3_tryToKeep 122 = .ok (.iconst 0, 1) := by decide +kernel
theorem dX3_tryToKeep_123 : decode cX3_tryToKeep 123 = .ok (.bastore, 1) := by decide +kernel
theorem dX3_tryToKeep_124 : decode cX3_tryToKeep 124 = .ok (.return_, 1) := by decide +kernel
theorem dX4_init_0 : decode cX4_init 0 = .ok (.aload_n 0, 1) := by decide +kernel
theorem dX4_init_1 : decode cX4_init 1 = .ok (.invokespecial 3, 3) := by decide +kernel
theorem dX4_init_4 : decode cX4_init 4 = .ok (.aload_n 0, 1) := by decide +kernel
theorem dX4_init_5 : decode cX4_init 5 = .ok (.bipush 30, 2) := by decide +kernel
theorem dX4_init_7 : decode cX4_init 7 = .ok (.newarray .int, 2) := by decide +kernel
theorem dX4_init_9 : decode cX4_init 9 = .ok (.putfield 9, 3) := by decide +kernel
theorem dX4_init_12 : decode cX4_init 12 = .ok (.aload_n 0, 1) := by decide +kernel
theorem dX4_init_13 : decode cX4_init 13 = .ok (.bipush 30, 2) := by decide +kernel
theorem dX4_init_15 : decode cX4_init 15 = .ok (.newarray .int, 2) := by decide +kernel
theorem dX4_init_17 : decode cX4_init 17 = .ok (.putfield 15, 3) := by decide +kernel
theorem dX4_init_20 : decode cX4_init 20 = .ok (.aload_n 0, 1) := by decide +kernel
theorem dX4_init_21 : decode cX4_init 21 = .ok (.bipush 30, 2) := by decide +kernel
theorem dX4_init_23 : decode cX4_init 23 = .ok (.newarray .int, 2) := by decide +kernel
theorem dX4_init_25 : decode cX4_init 25 = .ok (.putfield 18, 3) := by decide +kernel
theorem dX4_init_28 : decode cX4_init 28 = .ok (.aload_n 0, 1) := by decide +kernel
theorem dX4_init_29 : decode cX4_init 29 = .ok (.bipush 30, 2) := by decide +kernel
theorem dX4_init_31 : decode cX4_init 31 = .ok (.newarray .int, 2) := by decide +kernel
theorem dX4_init_33 : decode cX4_init 33 = .ok (.putfield 21, 3) := by decide +kernel
theorem dX4_init_36 : decode cX4_init 36 = .ok (.aload_n 0, 1) := by decide +kernel
theorem dX4_init_37 : decode cX4_init 37 = .ok (.bipush 30, 2) := by decide +kernel
theorem dX4_init_39 : decode cX4_init 39 = .ok (.newarray .int, 2) := by decide +kernel
theorem dX4_init_41 : decode cX4_init 41 = .ok (.putfield 24, 3) := by decide +kernel
theorem dX4_init_44 : decode cX4_init 44 = .ok (.aload_n 0, 1) := by decide +kernel
theorem dX4_init_45 : decode cX4_init 45 = .ok (.bipush 30, 2) := by decide +kernel
theorem dX4_init_47 : decode cX4_init 47 = .ok (.newarray .int, 2) := by decide +kernel
theorem dX4_init_49 : decode cX4_init 49 = .ok (.putfield 27, 3) := by decide +kernel
theorem dX4_init_52 : decode cX4_init 52 = .ok (.aload_n 0, 1) := by decide +kernel
theorem dX4_init_53 : decode cX4_init 53 = .ok (.iconst 0, 1) := by decide +kernel
theorem dX4_init_54 : decode cX4_init 54 = .ok (.putfield 30, 3) := by decide +kernel
theorem dX4_init_57 : decode cX4_init 57 = .ok (.aload_n 0, 1) := by decide +kernel
theorem dX4_init_58 : decode cX4_init 58 = .ok (.aload_n 1, 1) := by decide +kernel
theorem dX4_init_59 : decode cX4_init 59 = .ok (.putfield 34, 3) := by decide +kernel
theorem dX4_init_62 : decode cX4_init 62 = .ok (.return_, 1) := by decide +kernel
theorem dX4_hasGroup_0 : decode cX4_hasGroup 0 = .ok (.iload_n 1, 1) := by decide +kernel
theorem dX4_hasGroup_1 : decode cX4_hasGroup 1 = .ok (.ifCond .lt 15, 3) := by decide +kernel
theorem dX4_hasGroup_4 : decode cX4_hasGroup 4 = .ok (.iload_n 1, 1) := by decide +kernel
theorem dX4_hasGroup_5 : decode cX4_hasGroup 5 = .ok (.aload_n 0, 1) := by decide +kernel
theorem dX4_hasGroup_6 : decode cX4_hasGroup 6 = .ok (.getfield 30, 3) := by decide +kernel
theorem dX4_hasGroup_9 : decode cX4_hasGroup 9 = .ok (.if_icmp .ge 7, 3) := by decide +kernel
theorem dX4_hasGroup_12 : decode cX4_hasGroup 12 = .ok (.iconst 1, 1) := by decide +kernel
theorem dX4_hasGroup_13 : decode cX4_hasGroup 13 = .ok (.goto 4, 3) := by decide +kernel
theorem dX4_hasGroup_16 : decode cX4_hasGroup 16 = .ok (.iconst 0, 1) := by decide +kernel
theorem dX4_hasGroup_17 : decode cX4_hasGroup 17 = .ok (.ireturn, 1) := by decide +kernel
set_option maxRecDepth 20000 in
theorem ggX4_canGo_X1_hasEvent : GoodIn wsX4_canGo wsX1_hasEvent := goodIn_r _ [7, 8, 34, 35, 36, 37, 38, 39, 40, 41, 42, 43, 44, 45] (by decide +kernel) (by decide +kernel)
set_option maxRecDepth 20000 in
theorem gX4_canGo_X1_hasEvent : GoodIn wsX4_canGo (wsV RX4 38 RX1 yX1_hasEvent wsX1_hasEvent) := goodIn_app (goodIn_of _ (by decide +kernel)) ggX4_canGo_X1_hasEvent
set_option maxRecDepth 20000 in
theorem ggX4_canGo_X4_trainAfter : GoodIn wsX4_canGo wsX4_trainAfter := goodIn_r _ [13, 1, 2, 14, 15, 16, 17, 18, 6, 19, 20, 21, 22, 23, 24, 25, 26, 27, 28, 29, 30, 31, 32, 33, 34, 35, 36, 37, 38, 39, 40, 41, 42, 43, 44, 45] (by decide +kernel) (by decide +kernel)
set_option maxRecDepth 20000 in
theorem gX4_canGo_X4_trainAfter : GoodIn wsX4_canGo (wsV RX4 47 RX4 yX4_trainAfter wsX4_trainAfter) := goodIn_app (goodIn_of _ (by decide +kernel)) ggX4_canGo_X4_trainAfter
theorem dX4_canGo_0 : decode cX4_canGo 0 = .ok (.aload_n 0, 1) := by decide +kernel
theorem dX4_canGo_1 : decode cX4_canGo 1 = .ok (.getfield 34, 3) := by decide +kernel
theorem dX4_canGo_4 : decode cX4_canGo 4 = .ok (.iload_n 1, 1) := by decide +kernel
theorem dX4_canGo_5 : decode cX4_canGo 5 = .ok (.invokevirtual 38, 3) := by decide +kernel
theorem dX4_canGo_8 : decode cX4_canGo 8 = .ok (.ifCond .eq 25, 3) := by decide +kernel
theorem dX4_canGo_11 : decode cX4_canGo 11 = .ok (.aload_n 0, 1) := by decide +kernel
theorem dX4_canGo_12 : decode cX4_canGo 12 = .ok (.getfield 34, 3) := by decide +kernel
theorem dX4_canGo_15 : decode cX4_canGo 15 = .ok (.iload 4, 2) := by decide +kernel
theorem dX4_canGo_17 : decode cX4_canGo 17 = .ok (.invokevirtual 38, 3) := by decide +kernel
theorem dX4_canGo_20 : decode cX4_canGo 20 = .ok (.ifCond .eq 13, 3) := by decide +kernel
theorem dX4_canGo_23 : decode cX4_canGo 23 = .ok (.iload_n 2, 1) := by decide +kernel
theorem dX4_canGo_24 : decode cX4_canGo 24 = .ok (.iconst (-1), 1) := by decide +kernel
theorem dX4_canGo_25 : decode cX4_canGo 25 = .ok (.if_icmp .ne 10, 3) := by decide +kernel
theorem dX4_canGo_28 : decode cX4_canGo 28 = .ok (.iload_n 3, 1) := by decide +kernel
theorem dX4_canGo_29 : decode cX4_canGo 29 = .ok (.iconst (-1), 1) := by decide +kernel
theorem dX4_canGo_30 : decode cX4_canGo 30 = .ok (.if_icmp .eq 5, 3) := by decide +kernel
theorem dX4_canGo_33 : decode cX4_canGo 33 = .ok (.iconst 0, 1) := by decide +kernel
theorem dX4_canGo_34 : decode cX4_canGo 34 = .ok (.ireturn, 1) := by decide +kernel
theorem dX4_canGo_35 : decode cX4_canGo 35 = .ok (.aload_n 0, 1) := by decide +kernel
theorem dX4_canGo_36 : decode cX4_canGo 36 = .ok (.aload_n 0, 1) := by decide +kernel
theorem dX4_canGo_37 : decode cX4_canGo 37 = .ok (.getfield 34, 3) := by decide +kernel
theorem dX4_canGo_40 : decode cX4_canGo 40 = .ok (.getfield 44, 3) := by decide +kernel
theorem dX4_canGo_43 : decode cX4_canGo 43 = .ok (.iload_n 1, 1) := by decide +kernel
theorem dX4_canGo_44 : decode cX4_canGo 44 = .ok (.iaload, 1) := by decide +kernel
theorem dX4_canGo_45 : decode cX4_canGo 45 = .ok (.iload_n 2, 1) := by decide +kernel
theorem dX4_canGo_46 : decode cX4_canGo 46 = .ok (.invokevirtual 47, 3) := by decide +kernel
theorem dX4_canGo_49 : decode cX4_canGo 49 = .ok (.istore 5, 2) := by decide +kernel
theorem dX4_canGo_51 : decode cX4_canGo 51 = .ok (.aload_n 0, 1) := by decide +kernel
theorem dX4_canGo_52 : decode cX4_canGo 52 = .ok (.iload 5, 2) := by decide +kernel
theorem dX4_canGo_54 : decode cX4_canGo 54 = .ok (.iload_n 3, 1) := by decide +kernel
theorem dX4_canGo_55 : decode cX4_canGo 55 = .ok (.invokevirtual 47, 3) := by decide +kernel
theorem dX4_canGo_58 : decode cX4_canGo 58 = .ok (.istore 5, 2) := by decide +kernel
theorem dX4_canGo_60 : decode cX4_canGo 60 = .ok (.iload 5, 2) := by decide +kernel
theorem dX4_canGo_62 : decode cX4_canGo 62 = .ok (.iconst (-1), 1) := by decide +kernel
theorem dX4_canGo_63 : decode cX4_canGo 63 = .ok (.if_icmp .eq 22, 3) := by decide +kernel
theorem dX4_canGo_66 : decode cX4_canGo 66 = .ok (.aload_n 0, 1) := by decide +kernel
theorem dX4_canGo_67 : decode cX4_canGo 67 = .ok (.getfield 34, 3) := by decide +kernel
theorem dX4_canGo_70 : decode cX4_canGo 70 = .ok (.getfield 44, 3) := by decide +kernel
theorem dX4_canGo_73 : decode cX4_canGo 73 = .ok (.iload 4, 2) := by decide +kernel
theorem dX4_canGo_75 : decode cX4_canGo 75 = .ok (.iaload, 1) := by decide +kernel
theorem dX4_canGo_76 : decode cX4_canGo 76 = .ok (.iload 5, 2) := by decide +kernel
theorem dX4_canGo_78 : decode cX4_canGo 78 = .ok (.if_icmp .ne 7, 3) := by decide +kernel
theorem dX4_canGo_81 : decode cX4_canGo 81 = .ok (.iconst 1, 1) := by decide +kernel
theorem dX4_canGo_82 : decode cX4_canGo 82 = .ok (.goto 4, 3) := by decide +kernel
theorem dX4_canGo_85 : decode cX4_canGo 85 = .ok (.iconst 0, 1) := by decide +kernel
theorem dX4_canGo_86 : decode cX4_canGo 86 = .ok (.ireturn, 1) := by decide +kernel
set_option maxRecDepth 20000 in
theorem ggX4_trainAfter_X1_isOfKind : GoodIn wsX4_trainAfter wsX1_isOfKind := goodIn_r _ [9, 10, 11, 12, 13, 8, 14, 15, 24, 25, 26, 27, 28, 29, 30, 31, 32, 33, 34, 35] (by decide +kernel) (by decide +kernel)
set_option maxRecDepth 20000 in
theorem gX4_trainAfter_X1_isOfKind : GoodIn wsX4_trainAfter (wsV RX4 51 RX1 yX1_isOfKind wsX1_isOfKind) := goodIn_app (goodIn_of _ (by decide +kernel)) ggX4_trainAfter_X1_isOfKind
theorem dX4_trainAfter_0 : decode cX4_trainAfter 0 = .ok (.iload_n 2, 1) := by decide +kernel
theorem dX4_trainAfter_1 : decode cX4_trainAfter 1 = .ok (.iconst (-1), 1) := by decide +kernel
theorem dX4_trainAfter_2 : decode cX4_trainAfter 2 = .ok (.if_icmp .eq 8, 3) := by decide +kernel
theorem dX4_trainAfter_5 : decode cX4_trainAfter 5 = .ok (.iload_n 1, 1) := by decide +kernel
theorem dX4_trainAfter_6 : decode cX4_trainAfter 6 = .ok (.iconst (-1), 1) := by decide +kernel
theorem dX4_trainAfter_7 : decode cX4_trainAfter 7 = .ok (.if_icmp .ne 5, 3) := by decide +kernel
theorem dX4_trainAfter_10 : decode cX4_trainAfter 10 = .ok (.iload_n 1, 1) := by decide +kernel
theorem dX4_trainAfter_11 : decode cX4_trainAfter 11 = .ok (.ireturn, 1) := by decide +kernel
theorem dX4_trainAfter_12 : decode cX4_trainAfter 12 = .ok (.aload_n 0, 1) := by decide +kernel
theorem dX4_trainAfter_13 : decode cX4_trainAfter 13 = .ok (.getfield 34, 3) := by decide +kernel
theorem dX4_trainAfter_16 : decode cX4_trainAfter 16 = .ok (.iload_n 2, 1) := by decide +kernel
theorem dX4_trainAfter_17 : decode cX4_trainAfter 17 = .ok (.iconst 2, 1) := by decide +kernel
theorem dX4_trainAfter_18 : decode cX4_trainAfter 18 = .ok (.invokevirtual 51, 3) := by decide +kernel
theorem dX4_trainAfter_21 : decode cX4_trainAfter 21 = .ok (.ifCond .eq 24, 3) := by decide +kernel
theorem dX4_trainAfter_24 : decode cX4_trainAfter 24 = .ok (.aload_n 0, 1) := by decide +kernel
theorem dX4_trainAfter_25 : decode cX4_trainAfter 25 = .ok (.getfield 34, 3) := by decide +kernel
theorem dX4_trainAfter_28 : decode cX4_trainAfter 28 = .ok (.getfield 44, 3) := by decide +kernel
theorem dX4_trainAfter_31 : decode cX4_trainAfter 31 = .ok (.aload_n 0, 1) := by decide +kernel
theorem dX4_trainAfter_32 : decode cX4_trainAfter 32 = .ok (.getfield 34, 3) := by decide +kernel
theorem dX4_trainAfter_35 : decode cX4_trainAfter 35 = .ok (.getfield 55, 3) := by decide +kernel
theorem dX4_trainAfter_38 : decode cX4_trainAfter 38 = .ok (.iload_n 2, 1) := by decide +kernel
theorem dX4_trainAfter_39 : decode cX4_trainAfter 39 = .ok (.iaload, 1) := by decide +kernel
theorem dX4_trainAfter_40 : decode cX4_trainAfter 40 = .ok (.iaload, 1) := by decide +kernel
theorem dX4_trainAfter_41 : decode cX4_trainAfter 41 = .ok (.iload_n 1, 1) := by decide +kernel
theorem dX4_trainAfter_42 : decode cX4_trainAfter 42 = .ok (.if_icmp .eq 5, 3) := by decide +kernel
theorem dX4_trainAfter_45 : decode cX4_trainAfter 45 = .ok (.iconst (-1), 1) := by decide +kernel
theorem dX4_trainAfter_46 : decode cX4_trainAfter 46 = .ok (.ireturn, 1) := by decide +kernel
theorem dX4_trainAfter_47 : decode cX4_trainAfter 47 = .ok (.aload_n 0, 1) := by decide +kernel
theorem dX4_trainAfter_48 : decode cX4_trainAfter 48 = .ok (.getfield 34, 3) := by decide +kernel
theorem dX4_trainAfter_51 : decode cX4_trainAfter 51 = .ok (.getfield 44, 3) := by decide +kernel
theorem dX4_trainAfter_54 : decode cX4_trainAfter 54 = .ok (.aload_n 0, 1) := by decide +kernel
theorem dX4_trainAfter_55 : decode cX4_trainAfter 55 = .ok (.getfield 34, 3) := by decide +kernel
theorem dX4_trainAfter_58 : decode cX4_trainAfter 58 = .ok (.getfield 58, 3) := by decide +kernel
theorem dX4_trainAfter_61 : decode cX4_trainAfter 61 = .ok (.iload_n 2, 1) := by decide +kernel
theorem dX4_trainAfter_62 : decode cX4_trainAfter 62 = .ok (.iaload, 1) := by decide +kernel
theorem dX4_trainAfter_63 : decode cX4_trainAfter 63 = .ok (.iaload, 1) := by decide +kernel
theorem dX4_trainAfter_64 : decode cX4_trainAfter 64 = .ok (.ireturn, 1) := by decide +kernel
theorem dX4_add_0 : decode cX4_add 0 = .ok (.aload_n 0, 1) := by decide +kernel
theorem dX4_add_1 : decode cX4_add 1 = .ok (.getfield 9, 3) := by decide +kernel
theorem dX4_add_4 : decode cX4_add 4 = .ok (.aload_n 0, 1) := by decide +kernel
theorem dX4_add_5 : decode cX4_add 5 = .ok (.getfield 30, 3) := by decide +kernel
theorem dX4_add_8 : decode cX4_add 8 = .ok (.iload_n 1, 1) := by decide +kernel
theorem dX4_add_9 : decode cX4_add 9 = .ok (.iastore, 1) := by decide +kernel
theorem dX4_add_10 : decode cX4_add 10 = .ok (.aload_n 0, 1) := by decide +kernel
theorem dX4_add_11 : decode cX4_add 11 = .ok (.getfield 15, 3) := by decide +kernel
theorem dX4_add_14 : decode cX4_add 14 = .ok (.aload_n 0, 1) := by decide +kernel
theorem dX4_add_15 : decode cX4_add 15 = .ok (.getfield 30, 3) := by decide +kernel
theorem dX4_add_18 : decode cX4_add 18 = .ok (.iload_n 2, 1) := by decide +kernel
theorem dX4_add_19 : decode cX4_add 19 = .ok (.iastore, 1) := by decide +kernel
theorem dX4_add_20 : decode cX4_add 20 = .ok (.aload_n 0, 1) := by decide +kernel
theorem dX4_add_21 : decode cX4_add 21 = .ok (.getfield 18, 3) := by decide +kernel
theorem dX4_add_24 : decode cX4_add 24 = .ok (.aload_n 0, 1) := by decide +kernel
theorem dX4_add_25 : decode cX4_add 25 = .ok (.getfield 30, 3) := by decide +kernel
theorem dX4_add_28 : decode cX4_add 28 = .ok (.iload_n 3, 1) := by decide +kernel
theorem dX4_add_29 : decode cX4_add 29 = .ok (.iastore, 1) := by decide +kernel
theorem dX4_add_30 : decode cX4_add 30 = .ok (.aload_n 0, 1) := by decide +kernel
theorem dX4_add_31 : decode cX4_add 31 = .ok (.getfield 21, 3) := by decide +kernel
theorem dX4_add_34 : decode cX4_add 34 = .ok (.aload_n 0, 1) := by decide +kernel
theorem dX4_add_35 : decode cX4_add 35 = .ok (.getfield 30, 3) := by decide +kernel
theorem dX4_add_38 : decode cX4_add 38 = .ok (.iload 4, 2) := by decide +kernel
theorem dX4_add_40 : decode cX4_add 40 = .ok (.iastore, 1) := by decide +kernel
theorem dX4_add_41 : decode cX4_add 41 = .ok (.aload_n 0, 1) := by decide +kernel
theorem dX4_add_42 : decode cX4_add 42 = .ok (.getfield 24, 3) := by decide +kernel
theorem dX4_add_45 : decode cX4_add 45 = .ok (.aload_n 0, 1) := by decide +kernel
theorem dX4_add_46 : decode cX4_add 46 = .ok (.getfield 30, 3) := by decide +kernel
theorem dX4_add_49 : decode cX4_add 49 = .ok (.iload 5, 2) := by decide +kernel
theorem dX4_add_51 : decode cX4_add 51 = .ok (.iastore, 1) := by decide +kernel
theorem dX4_add_52 : decode cX4_add 52 = .ok (.aload_n 0, 1) := by decide +kernel
theorem dX4_add_53 : decode cX4_add 53 = .ok (.getfield 27, 3) := by decide +kernel
theorem dX4_add_56 : decode cX4_add 56 = .ok (.aload_n 0, 1) := by decide +kernel
theorem dX4_add_57 : decode cX4_add 57 = .ok (.getfield 30, 3) := by decide +kernel
theorem dX4_add_60 : decode cX4_add 60 = .ok (.iload 6, 2) := by decide +kernel
theorem dX4_add_62 : decode cX4_add 62 = .ok (.iastore, 1) := by decide +kernel
theorem dX4_add_63 : decode cX4_add 63 = .ok (.aload_n 0, 1) := by decide +kernel
theorem dX4_add_64 : decode cX4_add 64 = .ok (.dup, 1) := by decide +kernel
theorem dX4_add_65 : decode cX4_add 65 = .ok (.getfield 30, 3) := by decide +kernel
theorem dX4_add_68 : decode cX4_add 68 = .ok (.iconst 1, 1) := by decide +kernel
theorem dX4_add_69 : decode cX4_add 69 = .ok (.iadd, 1) := by decide +kernel
theorem dX4_add_70 : decode cX4_add 70 = .ok (.putfield 30, 3) := by decide +kernel
theorem dX4_add_73 : decode cX4_add 73 = .ok (.aload_n 0, 1) := by decide +kernel
theorem dX4_add_74 : decode cX4_add 74 = .ok (.getfield 30, 3) := by decide +kernel
theorem dX4_add_77 : decode cX4_add 77 = .ok (.iconst 1, 1) := by decide +kernel
theorem dX4_add_78 : decode cX4_add 78 = .ok (.isub, 1) := by decide +kernel
theorem dX4_add_79 : decode cX4_add 79 = .ok (.ireturn, 1) := by decide +kernel
set_option maxRecDepth 20000 in
theorem ggX4_isStranded_X4_fails : GoodIn wsX4_isStranded wsX4_fails := goodIn_r _ [10, 1, 11, 12, 2, 13, 14, 15, 16, 17, 18, 19, 20, 21, 22, 23, 24, 25, 26, 27, 28, 29, 30, 31, 32, 33, 34] (by decide +kernel) (by decide +kernel)
set_option maxRecDepth 20000 in
theorem gX4_isStranded_X4_fails : GoodIn wsX4_isStranded (wsV RX4 65 RX4 yX4_fails wsX4_fails) := goodIn_app (goodIn_of _ (by decide +kernel)) ggX4_isStranded_X4_fails
theorem dX4_isStranded_0 : decode cX4_isStranded 0 = .ok (.aload_n 0, 1) := by decide +kernel
theorem dX4_isStranded_1 : decode cX4_isStranded 1 = .ok (.getfield 34, 3) := by decide +kernel
theorem dX4_isStranded_4 : decode cX4_isStranded 4 = .ok (.getfield 61, 3) := by decide +kernel
theorem dX4_isStranded_7 : decode cX4_isStranded 7 = .ok (.aload_n 0, 1) := by decide +kernel
theorem dX4_isStranded_8 : decode cX4_isStranded 8 = .ok (.getfield 15, 3) := by decide +kernel
theorem dX4_isStranded_11 : decode cX4_isStranded 11 = .ok (.iload_n 1, 1) := by decide +kernel
theorem dX4_isStranded_12 : decode cX4_isStranded 12 = .ok (.iaload, 1) := by decide +kernel
theorem dX4_isStranded_13 : decode cX4_isStranded 13 = .ok (.baload, 1) := by decide +kernel
theorem dX4_isStranded_14 : decode cX4_isStranded 14 = .ok (.ifCond .eq 31, 3) := by decide +kernel
theorem dX4_isStranded_17 : decode cX4_isStranded 17 = .ok (.aload_n 0, 1) := by decide +kernel
theorem dX4_isStranded_18 : decode cX4_isStranded 18 = .ok (.aload_n 0, 1) := by decide +kernel
theorem dX4_isStranded_19 : decode cX4_isStranded 19 = .ok (.getfield 18, 3) := by decide +kernel
theorem dX4_isStranded_22 : decode cX4_isStranded 22 = .ok (.iload_n 1, 1) := by decide +kernel
theorem dX4_isStranded_23 : decode cX4_isStranded 23 = .ok (.iaload, 1) := by decide +kernel
theorem dX4_isStranded_24 : decode cX4_isStranded 24 = .ok (.aload_n 2, 1) := by decide +kernel
theorem dX4_isStranded_25 : decode cX4_isStranded 25 = .ok (.invokevirtual 65, 3) := by decide +kernel
theorem dX4_isStranded_28 : decode cX4_isStranded 28 = .ok (.ifCond .ne 17, 3) := by decide +kernel
theorem dX4_isStranded_31 : decode cX4_isStranded 31 = .ok (.aload_n 0, 1) := by decide +kernel
theorem dX4_isStranded_32 : decode cX4_isStranded 32 = .ok (.aload_n 0, 1) := by decide +kernel
theorem dX4_isStranded_33 : decode cX4_isStranded 33 = .ok (.getfield 21, 3) := by decide +kernel
theorem dX4_isStranded_36 : decode cX4_isStranded 36 = .ok (.iload_n 1, 1) := by decide +kernel
theorem dX4_isStranded_37 : decode cX4_isStranded 37 = .ok (.iaload, 1) := by decide +kernel
theorem dX4_isStranded_38 : decode cX4_isStranded 38 = .ok (.aload_n 2, 1) := by decide +kernel
theorem dX4_isStranded_39 : decode cX4_isStranded 39 = .ok (.invokevirtual 65, 3) := by decide +kernel
theorem dX4_isStranded_42 : decode cX4_isStranded 42 = .ok (.ifCond .eq 7, 3) := by decide +kernel
theorem dX4_isStranded_45 : decode cX4_isStranded 45 = .ok (.iconst 1, 1) := by decide +kernel
theorem dX4_isStranded_46 : decode cX4_isStranded 46 = .ok (.goto 4, 3) := by decide +kernel
theorem dX4_isStranded_49 : decode cX4_isStranded 49 = .ok (.iconst 0, 1) := by decide +kernel
theorem dX4_isStranded_50 : decode cX4_isStranded 50 = .ok (.ireturn, 1) := by decide +kernel
theorem dX4_fails_0 : decode cX4_fails 0 = .ok (.iload_n 1, 1) := by decide +kernel
theorem dX4_fails_1 : decode cX4_fails 1 = .ok (.iconst (-1), 1) := by decide +kernel
theorem dX4_fails_2 : decode cX4_fails 2 = .ok (.if_icmp .ne 5, 3) := by decide +kernel
theorem dX4_fails_5 : decode cX4_fails 5 = .ok (.iconst 0, 1) := by decide +kernel
theorem dX4_fails_6 : decode cX4_fails 6 = .ok (.ireturn, 1) := by decide +kernel
theorem dX4_fails_7 : decode cX4_fails 7 = .ok (.aload_n 0, 1) := by decide +kernel
theorem dX4_fails_8 : decode cX4_fails 8 = .ok (.getfield 34, 3) := by decide +kernel
theorem dX4_fails_11 : decode cX4_fails 11 = .ok (.getfield 55, 3) := by decide +kernel
theorem dX4_fails_14 : decode cX4_fails 14 = .ok (.iload_n 1, 1) := by decide +kernel
theorem dX4_fails_15 : decode cX4_fails 15 = .ok (.iaload, 1) := by decide +kernel
theorem dX4_fails_16 : decode cX4_fails 16 = .ok (.istore_n 3, 1) := by decide +kernel
theorem dX4_fails_17 : decode cX4_fails 17 = .ok (.aload_n 0, 1) := by decide +kernel
theorem dX4_fails_18 : decode cX4_fails 18 = .ok (.getfield 34, 3) := by decide +kernel
theorem dX4_fails_21 : decode cX4_fails 21 = .ok (.getfield 58, 3) := by decide +kernel
theorem dX4_fails_24 : decode cX4_fails 24 = .ok (.iload_n 1, 1) := by decide +kernel
theorem dX4_fails_25 : decode cX4_fails 25 = .ok (.iaload, 1) := by decide +kernel
theorem dX4_fails_26 : decode cX4_fails 26 = .ok (.istore 4, 2) := by decide +kernel
theorem dX4_fails_28 : decode cX4_fails 28 = .ok (.aload_n 0, 1) := by decide +kernel
theorem dX4_fails_29 : decode cX4_fails 29 = .ok (.getfield 34, 3) := by decide +kernel
theorem dX4_fails_32 : decode cX4_fails 32 = .ok (.getfield 61, 3) := by decide +kernel
theorem dX4_fails_35 : decode cX4_fails 35 = .ok (.iload 4, 2) := by decide +kernel
theorem dX4_fails_37 : decode cX4_fails 37 = .ok (.baload, 1) := by decide +kernel
theorem dX4_fails_38 : decode cX4_fails 38 = .ok (.ifCond .eq 35, 3) := by decide +kernel
theorem dX4_fails_41 : decode cX4_fails 41 = .ok (.aload_n 0, 1) := by decide +kernel
theorem dX4_fails_42 : decode cX4_fails 42 = .ok (.getfield 34, 3) := by decide +kernel
theorem dX4_fails_45 : decode cX4_fails 45 = .ok (.getfield 69, 3) := by decide +kernel
theorem dX4_fails_48 : decode cX4_fails 48 = .ok (.iload_n 1, 1) := by decide +kernel
theorem dX4_fails_49 : decode cX4_fails 49 = .ok (.baload, 1) := by decide +kernel
theorem dX4_fails_50 : decode cX4_fails 50 = .ok (.ifCond .ne 27, 3) := by decide +kernel
theorem dX4_fails_53 : decode cX4_fails 53 = .ok (.aload_n 2, 1) := by decide +kernel
theorem dX4_fails_54 : decode cX4_fails 54 = .ok (.iload 4, 2) := by decide +kernel
theorem dX4_fails_56 : decode cX4_fails 56 = .ok (.iaload, 1) := by decide +kernel
theorem dX4_fails_57 : decode cX4_fails 57 = .ok (.aload_n 2, 1) := by decide +kernel
theorem dX4_fails_58 : decode cX4_fails 58 = .ok (.iload_n 3, 1) := by decide +kernel
theorem dX4_fails_59 : decode cX4_fails 59 = .ok (.iaload, 1) := by decide +kernel
theorem dX4_fails_60 : decode cX4_fails 60 = .ok (.aload_n 0, 1) := by decide +kernel
theorem dX4_fails_61 : decode cX4_fails 61 = .ok (.getfield 34, 3) := by decide +kernel
theorem dX4_fails_64 : decode cX4_fails 64 = .ok (.getfield 72, 3) := by decide +kernel
theorem dX4_fails_67 : decode cX4_fails 67 = .ok (.iload_n 1, 1) := by decide +kernel
theorem dX4_fails_68 : decode cX4_fails 68 = .ok (.iaload, 1) := by decide +kernel
theorem dX4_fails_69 : decode cX4_fails 69 = .ok (.iadd, 1) := by decide +kernel
theorem dX4_fails_70 : decode cX4_fails 70 = .ok (.if_icmp .ge 7, 3) := by decide +kernel
theorem dX4_fails_73 : decode cX4_fails 73 = .ok (.iconst 1, 1) := by decide +kernel
theorem dX4_fails_74 : decode cX4_fails 74 = .ok (.goto 4, 3) := by decide +kernel
theorem dX4_fails_77 : decode cX4_fails 77 = .ok (.iconst 0, 1) := by decide +kernel
theorem dX4_fails_78 : decode cX4_fails 78 = .ok (.ireturn, 1) := by decide +kernel
set_option maxRecDepth 20000 in
theorem ggX4_lateness_X4_isStranded : GoodIn wsX4_lateness wsX4_isStranded := goodIn_r _ [9, 3, 10, 11, 12, 13, 14, 15, 16, 8, 17, 18, 19, 20, 21, 22, 23, 24, 25, 26, 27, 28, 29, 30, 31, 32, 33, 34, 35, 36, 37, 38, 39, 40, 41] (by decide +kernel) (by decide +kernel)
set_option maxRecDepth 20000 in
theorem gX4_lateness_X4_isStranded : GoodIn wsX4_lateness (wsV RX4 75 RX4 yX4_isStranded wsX4_isStranded) := goodIn_app (goodIn_of _ (by decide +kernel)) ggX4_lateness_X4_isStranded
theorem dX4_lateness_0 : decode cX4_lateness 0 = .ok (.aload_n 0, 1) := by decide +kernel
theorem dX4_lateness_1 : decode cX4_lateness 1 = .ok (.iload_n 1, 1) := by decide +kernel
theorem dX4_lateness_2 : decode cX4_lateness 2 = .ok (.aload_n 2, 1) := by decide +kernel
theorem dX4_lateness_3 : decode cX4_lateness 3 = .ok (.invokevirtual 75, 3) := by decide +kernel
theorem dX4_lateness_6 : decode cX4_lateness 6 = .ok (.ifCond .eq 12, 3) := by decide +kernel
theorem dX4_lateness_9 : decode cX4_lateness 9 = .ok (.aload_n 0, 1) := by decide +kernel
theorem dX4_lateness_10 : decode cX4_lateness 10 = .ok (.getfield 27, 3) := by decide +kernel
theorem dX4_lateness_13 : decode cX4_lateness 13 = .ok (.iload_n 1, 1) := by decide +kernel
theorem dX4_lateness_14 : decode cX4_lateness 14 = .ok (.iaload, 1) := by decide +kernel
theorem dX4_lateness_15 : decode cX4_lateness 15 = .ok (.goto 26, 3) := by decide +kernel
theorem dX4_lateness_18 : decode cX4_lateness 18 = .ok (.aload_n 2, 1) := by decide +kernel
theorem dX4_lateness_19 : decode cX4_lateness 19 = .ok (.aload_n 0, 1) := by decide +kernel
theorem dX4_lateness_20 : decode cX4_lateness 20 = .ok (.getfield 24, 3) := by decide +kernel
theorem dX4_lateness_23 : decode cX4_lateness 23 = .ok (.iload_n 1, 1) := by decide +kernel
theorem dX4_lateness_24 : decode cX4_lateness 24 = .ok (.iaload, 1) := by decide +kernel
theorem dX4_lateness_25 : decode cX4_lateness 25 = .ok (.iaload, 1) := by decide +kernel
theorem dX4_lateness_26 : decode cX4_lateness 26 = .ok (.aload_n 0, 1) := by decide +kernel
theorem dX4_lateness_27 : decode cX4_lateness 27 = .ok (.getfield 34, 3) := by decide +kernel
theorem dX4_lateness_30 : decode cX4_lateness 30 = .ok (.getfield 78, 3) := by decide +kernel
theorem dX4_lateness_33 : decode cX4_lateness 33 = .ok (.aload_n 0, 1) := by decide +kernel
theorem dX4_lateness_34 : decode cX4_lateness 34 = .ok (.getfield 24, 3) := by decide +kernel
theorem dX4_lateness_37 : decode cX4_lateness 37 = .ok (.iload_n 1, 1) := by decide +kernel
theorem dX4_lateness_38 : decode cX4_lateness 38 = .ok (.iaload, 1) := by decide +kernel
theorem dX4_lateness_39 : decode cX4_lateness 39 = .ok (.iaload, 1) := by decide +kernel
theorem dX4_lateness_40 : decode cX4_lateness 40 = .ok (.isub, 1) := by decide +kernel
theorem dX4_lateness_41 : decode cX4_lateness 41 = .ok (.ireturn, 1) := by decide +kernel
set_option maxRecDepth 20000 in
theorem ggX4_sum_X4_lateness : GoodIn wsX4_sum wsX4_lateness := goodIn_r _ [7, 8, 9, 10, 11, 12, 13, 14, 6, 15, 16, 17, 18, 19, 20, 21, 22, 23, 24, 25, 26, 27, 28, 29, 30, 31, 32, 33, 34, 35, 36, 37, 38, 39, 40, 41, 42, 43, 44, 45, 46, 47] (by decide +kernel) (by decide +kernel)
set_option maxRecDepth 20000 in
theorem gX4_sum_X4_lateness : GoodIn wsX4_sum (wsV RX4 81 RX4 yX4_lateness wsX4_lateness) := goodIn_app (goodIn_of _ (by decide +kernel)) ggX4_sum_X4_lateness
theorem dX4_sum_0 : decode cX4_sum 0 = .ok (.lconst 0, 1) := by decide +kernel
theorem dX4_sum_1 : decode cX4_sum 1 = .ok (.lstore_n 2, 1) := by decide +kernel
theorem dX4_sum_2 : decode cX4_sum 2 = .ok (.iconst 0, 1) := by decide +kernel
theorem dX4_sum_3 : decode cX4_sum 3 = .ok (.istore 4, 2) := by decide +kernel
theorem dX4_sum_5 : decode cX4_sum 5 = .ok (.iload 4, 2) := by decide +kernel
theorem dX4_sum_7 : decode cX4_sum 7 = .ok (.aload_n 0, 1) := by decide +kernel
theorem dX4_sum_8 : decode cX4_sum 8 = .ok (.getfield 30, 3) := by decide +kernel
theorem dX4_sum_11 : decode cX4_sum 11 = .ok (.if_icmp .ge 29, 3) := by decide +kernel
theorem dX4_sum_14 : decode cX4_sum 14 = .ok (.lload_n 2, 1) := by decide +kernel
theorem dX4_sum_15 : decode cX4_sum 15 = .ok (.aload_n 0, 1) := by decide +kernel
theorem dX4_sum_16 : decode cX4_sum 16 = .ok (.getfield 9, 3) := by decide +kernel
theorem dX4_sum_19 : decode cX4_sum 19 = .ok (.iload 4, 2) := by decide +kernel
theorem dX4_sum_21 : decode cX4_sum 21 = .ok (.iaload, 1) := by decide +kernel
theorem dX4_sum_22 : decode cX4_sum 22 = .ok (.i2l, 1) := by decide +kernel
theorem dX4_sum_23 : decode cX4_sum 23 = .ok (.aload_n 0, 1) := by decide +kernel
theorem dX4_sum_24 : decode cX4_sum 24 = .ok (.iload 4, 2) := by decide +kernel
theorem dX4_sum_26 : decode cX4_sum 26 = .ok (.aload_n 1, 1) := by decide +kernel
theorem dX4_sum_27 : decode cX4_sum 27 = .ok (.invokevirtual 81, 3) := by decide +kernel
theorem dX4_sum_30 : decode cX4_sum 30 = .ok (.i2l, 1) := by decide +kernel
theorem dX4_sum_31 : decode cX4_sum 31 = .ok (.lmul, 1) := by decide +kernel
theorem dX4_sum_32 : decode cX4_sum 32 = .ok (.ladd, 1) := by decide +kernel
theorem dX4_sum_33 : decode cX4_sum 33 = .ok (.lstore_n 2, 1) := by decide +kernel
theorem dX4_sum_34 : decode cX4_sum 34 = .ok (.iinc 4 1, 3) := by decide +kernel
theorem dX4_sum_37 : decode cX4_sum 37 = .ok (.goto (-32), 3) := by decide +kernel
theorem dX4_sum_40 : decode cX4_sum 40 = .ok (.lload_n 2, 1) := by decide +kernel
theorem dX4_sum_41 : decode cX4_sum 41 = .ok (.lreturn, 1) := by decide +kernel
set_option maxRecDepth 20000 in
theorem ggX5_init_X1_init : GoodIn wsX5_init wsX1_init := goodIn_r _ [31, 32, 2, 3, 24, 33, 34, 35, 36, 37, 38, 39, 40, 41, 42, 43, 44, 45, 93, 94, 95, 96, 97, 98, 99, 100, 101, 102, 103, 104] (by decide +kernel) (by decide +kernel)
set_option maxRecDepth 20000 in
theorem gX5_init_X1_init_n9 : GoodIn wsX5_init (wsX1_init) := ggX5_init_X1_init
set_option maxRecDepth 20000 in
theorem ggX5_init_X4_init : GoodIn wsX5_init wsX4_init := goodIn_r _ [48, 49, 2, 3, 24, 50, 51, 52, 53, 54, 55, 56, 57, 115, 116, 117, 118, 119, 120, 121, 122] (by decide +kernel) (by decide +kernel)
set_option maxRecDepth 20000 in
theorem gX5_init_X4_init : GoodIn wsX5_init (wsX4_init) := ggX5_init_X4_init
set_option maxRecDepth 20000 in
theorem ggX5_init_X2_init : GoodIn wsX5_init wsX2_init := goodIn_r _ [60, 61, 2, 3, 62, 24, 63, 64, 65, 66, 67, 68, 69, 123, 124, 125, 126, 127, 128, 129] (by decide +kernel) (by decide +kernel)
set_option maxRecDepth 20000 in
theorem gX5_init_X2_init : GoodIn wsX5_init (wsX2_init) := ggX5_init_X2_init
set_option maxRecDepth 20000 in
theorem ggX5_init_X0_init : GoodIn wsX5_init wsX0_init := goodIn_r _ [72, 73, 2, 3, 24, 74, 36, 75, 76, 77, 78, 79, 80, 81, 82, 83, 84, 130, 131, 132, 133, 134, 135, 136, 137, 138] (by decide +kernel) (by decide +kernel)
set_option maxRecDepth 20000 in
theorem gX5_init_X0_init : GoodIn wsX5_init (wsX0_init) := ggX5_init_X0_init
set_option maxRecDepth 20000 in
theorem ggX5_init_X3_init : GoodIn wsX5_init wsX3_init := goodIn_r _ [87, 88, 2, 3, 24, 89, 90, 91, 92, 139, 140, 141, 142] (by decide +kernel) (by decide +kernel)
set_option maxRecDepth 20000 in
theorem gX5_init_X3_init : GoodIn wsX5_init (wsX3_init) := ggX5_init_X3_init
theorem dX5_init_0 : decode cX5_init 0 = .ok (.aload_n 0, 1) := by decide +kernel
theorem dX5_init_1 : decode cX5_init 1 = .ok (.invokespecial 1, 3) := by decide +kernel
theorem dX5_init_4 : decode cX5_init 4 = .ok (.aload_n 0, 1) := by decide +kernel
theorem dX5_init_5 : decode cX5_init 5 = .ok (.new 7, 3) := by decide +kernel
theorem dX5_init_8 : decode cX5_init 8 = .ok (.dup, 1) := by decide +kernel
theorem dX5_init_9 : decode cX5_init 9 = .ok (.invokespecial 9, 3) := by decide +kernel
theorem dX5_init_12 : decode cX5_init 12 = .ok (.putfield 10, 3) := by decide +kernel
theorem dX5_init_15 : decode cX5_init 15 = .ok (.aload_n 0, 1) := by decide +kernel
theorem dX5_init_16 : decode cX5_init 16 = .ok (.new 16, 3) := by decide +kernel
theorem dX5_init_19 : decode cX5_init 19 = .ok (.dup, 1) := by decide +kernel
theorem dX5_init_20 : decode cX5_init 20 = .ok (.aload_n 0, 1) := by decide +kernel
theorem dX5_init_21 : decode cX5_init 21 = .ok (.getfield 10, 3) := by decide +kernel
theorem dX5_init_24 : decode cX5_init 24 = .ok (.invokespecial 18, 3) := by decide +kernel
theorem dX5_init_27 : decode cX5_init 27 = .ok (.putfield 21, 3) := by decide +kernel
theorem dX5_init_30 : decode cX5_init 30 = .ok (.aload_n 0, 1) := by decide +kernel
theorem dX5_init_31 : decode cX5_init 31 = .ok (.new 25, 3) := by decide +kernel
theorem dX5_init_34 : decode cX5_init 34 = .ok (.dup, 1) := by decide +kernel
theorem dX5_init_35 : decode cX5_init 35 = .ok (.aload_n 0, 1) := by decide +kernel
theorem dX5_init_36 : decode cX5_init 36 = .ok (.getfield 10, 3) := by decide +kernel
theorem dX5_init_39 : decode cX5_init 39 = .ok (.invokespecial 27, 3) := by decide +kernel
theorem dX5_init_42 : decode cX5_init 42 = .ok (.putfield 28, 3) := by decide +kernel
theorem dX5_init_45 : decode cX5_init 45 = .ok (.aload_n 0, 1) := by decide +kernel
theorem dX5_init_46 : decode cX5_init 46 = .ok (.new 32, 3) := by decide +kernel
theorem dX5_init_49 : decode cX5_init 49 = .ok (.dup, 1) := by decide +kernel
theorem dX5_init_50 : decode cX5_init 50 = .ok (.aload_n 0, 1) := by decide +kernel
theorem dX5_init_51 : decode cX5_init 51 = .ok (.getfield 10, 3) := by decide +kernel
theorem dX5_init_54 : decode cX5_init 54 = .ok (.aload_n 0, 1) := by decide +kernel
theorem dX5_init_55 : decode cX5_init 55 = .ok (.getfield 21, 3) := by decide +kernel
theorem dX5_init_58 : decode cX5_init 58 = .ok (.invokespecial 34, 3) := by decide +kernel
theorem dX5_init_61 : decode cX5_init 61 = .ok (.putfield 37, 3) := by decide +kernel
theorem dX5_init_64 : decode cX5_init 64 = .ok (.aload_n 0, 1) := by decide +kernel
theorem dX5_init_65 : decode cX5_init 65 = .ok (.new 41, 3) := by decide +kernel
theorem dX5_init_68 : decode cX5_init 68 = .ok (.dup, 1) := by decide +kernel
theorem dX5_init_69 : decode cX5_init 69 = .ok (.aload_n 0, 1) := by decide +kernel
theorem dX5_init_70 : decode cX5_init 70 = .ok (.getfield 10, 3) := by decide +kernel
theorem dX5_init_73 : decode cX5_init 73 = .ok (.invokespecial 43, 3) := by decide +kernel
theorem dX5_init_76 : decode cX5_init 76 = .ok (.putfield 44, 3) := by decide +kernel
theorem dX5_init_79 : decode cX5_init 79 = .ok (.aload_n 0, 1) := by decide +kernel
theorem dX5_init_80 : decode cX5_init 80 = .ok (.bipush 60, 2) := by decide +kernel
theorem dX5_init_82 : decode cX5_init 82 = .ok (.newarray .int, 2) := by decide +kernel
theorem dX5_init_84 : decode cX5_init 84 = .ok (.putfield 48, 3) := by decide +kernel
theorem dX5_init_87 : decode cX5_init 87 = .ok (.aload_n 0, 1) := by decide +kernel
theorem dX5_init_88 : decode cX5_init 88 = .ok (.bipush 60, 2) := by decide +kernel
theorem dX5_init_90 : decode cX5_init 90 = .ok (.newarray .int, 2) := by decide +kernel
theorem dX5_init_92 : decode cX5_init 92 = .ok (.putfield 52, 3) := by decide +kernel
theorem dX5_init_95 : decode cX5_init 95 = .ok (.aload_n 0, 1) := by decide +kernel
theorem dX5_init_96 : decode cX5_init 96 = .ok (.iconst 0, 1) := by decide +kernel
theorem dX5_init_97 : decode cX5_init 97 = .ok (.putfield 55, 3) := by decide +kernel
theorem dX5_init_100 : decode cX5_init 100 = .ok (.aload_n 0, 1) := by decide +kernel
theorem dX5_init_101 : decode cX5_init 101 = .ok (.iconst 0, 1) := by decide +kernel
theorem dX5_init_102 : decode cX5_init 102 = .ok (.putfield 59, 3) := by decide +kernel
theorem dX5_init_105 : decode cX5_init 105 = .ok (.aload_n 0, 1) := by decide +kernel
theorem dX5_init_106 : decode cX5_init 106 = .ok (.iconst 0, 1) := by decide +kernel
theorem dX5_init_107 : decode cX5_init 107 = .ok (.putfield 62, 3) := by decide +kernel
theorem dX5_init_110 : decode cX5_init 110 = .ok (.return_, 1) := by decide +kernel
set_option maxRecDepth 20000 in
theorem ggX5_event_X5_isIn : GoodIn wsX5_event wsX5_isIn := goodIn_r _ [6] (by decide +kernel) (by decide +kernel)
set_option maxRecDepth 20000 in
theorem gX5_event_X5_isIn : GoodIn wsX5_event (va_wsS RX5 65 yX5_isIn wsX5_isIn) := goodIn_app (goodIn_of _ (by decide +kernel)) ggX5_event_X5_isIn
set_option maxRecDepth 20000 in
theorem ggX5_event_X5_forgetAnswers : GoodIn wsX5_event wsX5_forgetAnswers := goodIn_r _ [10, 11, 12, 24, 25, 26, 27, 28, 29, 30, 31, 32, 33] (by decide +kernel) (by decide +kernel)
set_option maxRecDepth 20000 in
theorem gX5_event_X5_forgetAnswers : GoodIn wsX5_event (wsV RX5 73 RX5 yX5_forgetAnswers wsX5_forgetAnswers) := goodIn_app (goodIn_of _ (by decide +kernel)) ggX5_event_X5_forgetAnswers
set_option maxRecDepth 20000 in
theorem ggX5_event_X1_addEvent : GoodIn wsX5_event wsX1_addEvent := goodIn_r _ [17, 18, 19, 20, 21, 22, 23, 34, 35, 36, 37, 38, 39, 40, 41, 42, 43, 44, 45] (by decide +kernel) (by decide +kernel)
set_option maxRecDepth 20000 in
theorem gX5_event_X1_addEvent : GoodIn wsX5_event (wsV RX5 76 RX1 yX1_addEvent wsX1_addEvent) := goodIn_app (goodIn_of _ (by decide +kernel)) ggX5_event_X1_addEvent
theorem dX5_event_0 : decode cX5_event 0 = .ok (.iload_n 1, 1) := by decide +kernel
theorem dX5_event_1 : decode cX5_event 1 = .ok (.iconst 0, 1) := by decide +kernel
theorem dX5_event_2 : decode cX5_event 2 = .ok (.bipush 15, 2) := by decide +kernel
theorem dX5_event_4 : decode cX5_event 4 = .ok (.invokestatic 65, 3) := by decide +kernel
theorem dX5_event_7 : decode cX5_event 7 = .ok (.ifCond .eq 26, 3) := by decide +kernel
theorem dX5_event_10 : decode cX5_event 10 = .ok (.iload_n 2, 1) := by decide +kernel
theorem dX5_event_11 : decode cX5_event 11 = .ok (.iconst 0, 1) := by decide +kernel
theorem dX5_event_12 : decode cX5_event 12 = .ok (.sipush 2000, 3) := by decide +kernel
theorem dX5_event_15 : decode cX5_event 15 = .ok (.invokestatic 65, 3) := by decide +kernel
theorem dX5_event_18 : decode cX5_event 18 = .ok (.ifCond .eq 15, 3) := by decide +kernel
theorem dX5_event_21 : decode cX5_event 21 = .ok (.aload_n 0, 1) := by decide +kernel
theorem dX5_event_22 : decode cX5_event 22 = .ok (.getfield 10, 3) := by decide +kernel
theorem dX5_event_25 : decode cX5_event 25 = .ok (.getfield 69, 3) := by decide +kernel
theorem dX5_event_28 : decode cX5_event 28 = .ok (.bipush 60, 2) := by decide +kernel
theorem dX5_event_30 : decode cX5_event 30 = .ok (.if_icmp .lt 5, 3) := by decide +kernel
theorem dX5_event_33 : decode cX5_event 33 = .ok (.iconst (-1), 1) := by decide +kernel
theorem dX5_event_34 : decode cX5_event 34 = .ok (.ireturn, 1) := by decide +kernel
theorem dX5_event_35 : decode cX5_event 35 = .ok (.aload_n 0, 1) := by decide +kernel
theorem dX5_event_36 : decode cX5_event 36 = .ok (.invokevirtual 73, 3) := by decide +kernel
theorem dX5_event_39 : decode cX5_event 39 = .ok (.aload_n 0, 1) := by decide +kernel
theorem dX5_event_40 : decode cX5_event 40 = .ok (.getfield 10, 3) := by decide +kernel
theorem dX5_event_43 : decode cX5_event 43 = .ok (.iload_n 1, 1) := by decide +kernel
theorem dX5_event_44 : decode cX5_event 44 = .ok (.iload_n 2, 1) := by decide +kernel
theorem dX5_event_45 : decode cX5_event 45 = .ok (.invokevirtual 76, 3) := by decide +kernel
theorem dX5_event_48 : decode cX5_event 48 = .ok (.ireturn, 1) := by decide +kernel
set_option maxRecDepth 20000 in
theorem ggX5_activity_X5_isIn : GoodIn wsX5_activity wsX5_isIn := goodIn_r _ [6] (by decide +kernel) (by decide +kernel)
set_option maxRecDepth 20000 in
theorem gX5_activity_X5_isIn : GoodIn wsX5_activity (va_wsS RX5 65 yX5_isIn wsX5_isIn) := goodIn_app (goodIn_of _ (by decide +kernel)) ggX5_activity_X5_isIn
set_option maxRecDepth 20000 in
theorem ggX5_activity_X1_canJoin : GoodIn wsX5_activity wsX1_canJoin := goodIn_r _ [11, 12, 13, 14, 15, 10, 16, 17, 44, 45, 46, 47, 48, 49, 50, 51, 52, 53, 54, 55] (by decide +kernel) (by decide +kernel)
set_option maxRecDepth 20000 in
theorem gX5_activity_X1_canJoin : GoodIn wsX5_activity (wsV RX5 83 RX1 yX1_canJoin wsX1_canJoin) := goodIn_app (goodIn_of _ (by decide +kernel)) ggX5_activity_X1_canJoin
set_option maxRecDepth 20000 in
theorem ggX5_activity_X5_forgetAnswers : GoodIn wsX5_activity wsX5_forgetAnswers := goodIn_r _ [21, 22, 23, 34, 35, 36, 37, 38, 39, 40, 41, 42, 43] (by decide +kernel) (by decide +kernel)
set_option maxRecDepth 20000 in
theorem gX5_activity_X5_forgetAnswers : GoodIn wsX5_activity (wsV RX5 73 RX5 yX5_forgetAnswers wsX5_forgetAnswers) := goodIn_app (goodIn_of _ (by decide +kernel)) ggX5_activity_X5_forgetAnswers
set_option maxRecDepth 20000 in
theorem ggX5_activity_X1_addActivity : GoodIn wsX5_activity wsX1_addActivity := goodIn_r _ [27, 28, 29, 30, 31, 32, 33, 44, 45, 46, 47, 48, 49, 50, 51, 52, 53, 54, 55] (by decide +kernel) (by decide +kernel)
set_option maxRecDepth 20000 in
theorem gX5_activity_X1_addActivity : GoodIn wsX5_activity (wsV RX5 86 RX1 yX1_addActivity wsX1_addActivity) := goodIn_app (goodIn_of _ (by decide +kernel)) ggX5_activity_X1_addActivity
theorem dX5_activity_0 : decode cX5_activity 0 = .ok (.iload_n 1, 1) := by decide +kernel
theorem dX5_activity_1 : decode cX5_activity 1 = .ok (.iconst 0, 1) := by decide +kernel
theorem dX5_activity_2 : decode cX5_activity 2 = .ok (.iconst 4, 1) := by decide +kernel
theorem dX5_activity_3 : decode cX5_activity 3 = .ok (.invokestatic 65, 3) := by decide +kernel
theorem dX5_activity_6 : decode cX5_activity 6 = .ok (.ifCond .eq 40, 3) := by decide +kernel
theorem dX5_activity_9 : decode cX5_activity 9 = .ok (.iload 4, 2) := by decide +kernel
theorem dX5_activity_11 : decode cX5_activity 11 = .ok (.iconst 0, 1) := by decide +kernel
theorem dX5_activity_12 : decode cX5_activity 12 = .ok (.sipush 500, 3) := by decide +kernel
theorem dX5_activity_15 : decode cX5_activity 15 = .ok (.invokestatic 65, 3) := by decide +kernel
theorem dX5_activity_18 : decode cX5_activity 18 = .ok (.ifCond .eq 28, 3) := by decide +kernel
theorem dX5_activity_21 : decode cX5_activity 21 = .ok (.aload_n 0, 1) := by decide +kernel
theorem dX5_activity_22 : decode cX5_activity 22 = .ok (.getfield 10, 3) := by decide +kernel
theorem dX5_activity_25 : decode cX5_activity 25 = .ok (.getfield 80, 3) := by decide +kernel
theorem dX5_activity_28 : decode cX5_activity 28 = .ok (.bipush 100, 2) := by decide +kernel
theorem dX5_activity_30 : decode cX5_activity 30 = .ok (.if_icmp .ge 16, 3) := by decide +kernel
theorem dX5_activity_33 : decode cX5_activity 33 = .ok (.aload_n 0, 1) := by decide +kernel
theorem dX5_activity_34 : decode cX5_activity 34 = .ok (.getfield 10, 3) := by decide +kernel
theorem dX5_activity_37 : decode cX5_activity 37 = .ok (.iload_n 1, 1) := by decide +kernel
theorem dX5_activity_38 : decode cX5_activity 38 = .ok (.iload_n 2, 1) := by decide +kernel
theorem dX5_activity_39 : decode cX5_activity 39 = .ok (.iload_n 3, 1) := by decide +kernel
theorem dX5_activity_40 : decode cX5_activity 40 = .ok (.invokevirtual 83, 3) := by decide +kernel
theorem dX5_activity_43 : decode cX5_activity 43 = .ok (.ifCond .ne 5, 3) := by decide +kernel
theorem dX5_activity_46 : decode cX5_activity 46 = .ok (.iconst (-1), 1) := by decide +kernel
theorem dX5_activity_47 : decode cX5_activity 47 = .ok (.ireturn, 1) := by decide +kernel
theorem dX5_activity_48 : decode cX5_activity 48 = .ok (.aload_n 0, 1) := by decide +kernel
theorem dX5_activity_49 : decode cX5_activity 49 = .ok (.invokevirtual 73, 3) := by decide +kernel
theorem dX5_activity_52 : decode cX5_activity 52 = .ok (.aload_n 0, 1) := by decide +kernel
theorem dX5_activity_53 : decode cX5_activity 53 = .ok (.getfield 10, 3) := by decide +kernel
theorem dX5_activity_56 : decode cX5_activity 56 = .ok (.iload_n 1, 1) := by decide +kernel
theorem dX5_activity_57 : decode cX5_activity 57 = .ok (.iload_n 2, 1) := by decide +kernel
theorem dX5_activity_58 : decode cX5_activity 58 = .ok (.iload_n 3, 1) := by decide +kernel
theorem dX5_activity_59 : decode cX5_activity 59 = .ok (.iload 4, 2) := by decide +kernel
theorem dX5_activity_61 : decode cX5_activity 61 = .ok (.invokevirtual 86, 3) := by decide +kernel
theorem dX5_activity_64 : decode cX5_activity 64 = .ok (.ireturn, 1) := by decide +kernel
set_option maxRecDepth 20000 in
theorem ggX5_source_X1_hasEvent : GoodIn wsX5_source wsX1_hasEvent := goodIn_r _ [7, 8, 29, 30, 31, 32, 33, 34, 35, 36, 37, 38, 39, 40] (by decide +kernel) (by decide +kernel)
set_option maxRecDepth 20000 in
theorem gX5_source_X1_hasEvent : GoodIn wsX5_source (wsV RX5 90 RX1 yX1_hasEvent wsX1_hasEvent) := goodIn_app (goodIn_of _ (by decide +kernel)) ggX5_source_X1_hasEvent
set_option maxRecDepth 20000 in
theorem ggX5_source_X5_isIn : GoodIn wsX5_source wsX5_isIn := goodIn_r _ [12] (by decide +kernel) (by decide +kernel)
set_option maxRecDepth 20000 in
theorem gX5_source_X5_isIn : GoodIn wsX5_source (va_wsS RX5 65 yX5_isIn wsX5_isIn) := goodIn_app (goodIn_of _ (by decide +kernel)) ggX5_source_X5_isIn
set_option maxRecDepth 20000 in
theorem ggX5_source_X5_forgetAnswers : GoodIn wsX5_source wsX5_forgetAnswers := goodIn_r _ [16, 17, 18, 19, 20, 21, 22, 23, 24, 25, 26, 27, 28] (by decide +kernel) (by decide +kernel)
set_option maxRecDepth 20000 in
theorem gX5_source_X5_forgetAnswers : GoodIn wsX5_source (wsV RX5 73 RX5 yX5_forgetAnswers wsX5_forgetAnswers) := goodIn_app (goodIn_of _ (by decide +kernel)) ggX5_source_X5_forgetAnswers
theorem dX5_source_0 : decode cX5_source 0 = .ok (.aload_n 0, 1) := by decide +kernel
theorem dX5_source_1 : decode cX5_source 1 = .ok (.getfield 10, 3) := by decide +kernel
theorem dX5_source_4 : decode cX5_source 4 = .ok (.iload_n 1, 1) := by decide +kernel
theorem dX5_source_5 : decode cX5_source 5 = .ok (.invokevirtual 90, 3) := by decide +kernel
theorem dX5_source_8 : decode cX5_source 8 = .ok (.ifCond .eq 14, 3) := by decide +kernel
theorem dX5_source_11 : decode cX5_source 11 = .ok (.iload_n 2, 1) := by decide +kernel
theorem dX5_source_12 : decode cX5_source 12 = .ok (.iconst 0, 1) := by decide +kernel
theorem dX5_source_13 : decode cX5_source 13 = .ok (.sipush 500, 3) := by decide +kernel
theorem dX5_source_16 : decode cX5_source 16 = .ok (.invokestatic 65, 3) := by decide +kernel
theorem dX5_source_19 : decode cX5_source 19 = .ok (.ifCond .ne 5, 3) := by decide +kernel
theorem dX5_source_22 : decode cX5_source 22 = .ok (.iconst 0, 1) := by decide +kernel
theorem dX5_source_23 : decode cX5_source 23 = .ok (.ireturn, 1) := by decide +kernel
theorem dX5_source_24 : decode cX5_source 24 = .ok (.aload_n 0, 1) := by decide +kernel
theorem dX5_source_25 : decode cX5_source 25 = .ok (.getfield 10, 3) := by decide +kernel
theorem dX5_source_28 : decode cX5_source 28 = .ok (.getfield 94, 3) := by decide +kernel
theorem dX5_source_31 : decode cX5_source 31 = .ok (.iload_n 1, 1) := by decide +kernel
theorem dX5_source_32 : decode cX5_source 32 = .ok (.iload_n 2, 1) := by decide +kernel
theorem dX5_source_33 : decode cX5_source 33 = .ok (.iastore, 1) := by decide +kernel
theorem dX5_source_34 : decode cX5_source 34 = .ok (.aload_n 0, 1) := by decide +kernel
theorem dX5_source_35 : decode cX5_source 35 = .ok (.invokevirtual 73, 3) := by decide +kernel
theorem dX5_source_38 : decode cX5_source 38 = .ok (.iconst 1, 1) := by decide +kernel
theorem dX5_source_39 : decode cX5_source 39 = .ok (.ireturn, 1) := by decide +kernel
set_option maxRecDepth 20000 in
theorem ggX5_keep_X1_isOfKind : GoodIn wsX5_keep wsX1_isOfKind := goodIn_r _ [7, 8, 9, 10, 11, 6, 12, 13, 31, 32, 33, 34, 35, 36, 37, 38, 39, 40, 41, 42] (by decide +kernel) (by decide +kernel)
set_option maxRecDepth 20000 in
theorem gX5_keep_X1_isOfKind : GoodIn wsX5_keep (wsV RX5 97 RX1 yX1_isOfKind wsX1_isOfKind) := goodIn_app (goodIn_of _ (by decide +kernel)) ggX5_keep_X1_isOfKind
set_option maxRecDepth 20000 in
theorem ggX5_keep_X5_forgetAnswers : GoodIn wsX5_keep wsX5_forgetAnswers := goodIn_r _ [18, 19, 20, 21, 22, 23, 24, 25, 26, 27, 28, 29, 30] (by decide +kernel) (by decide +kernel)
set_option maxRecDepth 20000 in
theorem gX5_keep_X5_forgetAnswers : GoodIn wsX5_keep (wsV RX5 73 RX5 yX5_forgetAnswers wsX5_forgetAnswers) := goodIn_app (goodIn_of _ (by decide +kernel)) ggX5_keep_X5_forgetAnswers
theorem dX5_keep_0 : decode cX5_keep 0 = .ok (.aload_n 0, 1) := by decide +kernel
theorem dX5_keep_1 : decode cX5_keep 1 = .ok (.getfield 10, 3) := by decide +kernel
theorem dX5_keep_4 : decode cX5_keep 4 = .ok (.iload_n 1, 1) := by decide +kernel
theorem dX5_keep_5 : decode cX5_keep 5 = .ok (.iconst 2, 1) := by decide +kernel
theorem dX5_keep_6 : decode cX5_keep 6 = .ok (.invokevirtual 97, 3) := by decide +kernel
theorem dX5_keep_9 : decode cX5_keep 9 = .ok (.ifCond .eq 16, 3) := by decide +kernel
theorem dX5_keep_12 : decode cX5_keep 12 = .ok (.aload_n 0, 1) := by decide +kernel
theorem dX5_keep_13 : decode cX5_keep 13 = .ok (.getfield 10, 3) := by decide +kernel
theorem dX5_keep_16 : decode cX5_keep 16 = .ok (.getfield 101, 3) := by decide +kernel
theorem dX5_keep_19 : decode cX5_keep 19 = .ok (.iload_n 1, 1) := by decide +kernel
theorem dX5_keep_20 : decode cX5_keep 20 = .ok (.baload, 1) := by decide +kernel
theorem dX5_keep_21 : decode cX5_keep 21 = .ok (.iload_n 2, 1) := by decide +kernel
theorem dX5_keep_22 : decode cX5_keep 22 = .ok (.if_icmp .ne 5, 3) := by decide +kernel
theorem dX5_keep_25 : decode cX5_keep 25 = .ok (.iconst 0, 1) := by decide +kernel
theorem dX5_keep_26 : decode cX5_keep 26 = .ok (.ireturn, 1) := by decide +kernel
theorem dX5_keep_27 : decode cX5_keep 27 = .ok (.aload_n 0, 1) := by decide +kernel
theorem dX5_keep_28 : decode cX5_keep 28 = .ok (.getfield 10, 3) := by decide +kernel
theorem dX5_keep_31 : decode cX5_keep 31 = .ok (.getfield 101, 3) := by decide +kernel
theorem dX5_keep_34 : decode cX5_keep 34 = .ok (.iload_n 1, 1) := by decide +kernel
theorem dX5_keep_35 : decode cX5_keep 35 = .ok (.iload_n 2, 1) := by decide +kernel
theorem dX5_keep_36 : decode cX5_keep 36 = .ok (.bastore, 1) := by decide +kernel
theorem dX5_keep_37 : decode cX5_keep 37 = .ok (.aload_n 0, 1) := by decide +kernel
theorem dX5_keep_38 : decode cX5_keep 38 = .ok (.invokevirtual 73, 3) := by decide +kernel
theorem dX5_keep_41 : decode cX5_keep 41 = .ok (.iconst 1, 1) := by decide +kernel
theorem dX5_keep_42 : decode cX5_keep 42 = .ok (.ireturn, 1) := by decide +kernel
set_option maxRecDepth 20000 in
theorem ggX5_turn_X1_isOfKind : GoodIn wsX5_turn wsX1_isOfKind := goodIn_r _ [8, 9, 10, 11, 12, 7, 13, 14, 32, 33, 34, 35, 36, 37, 38, 39, 40, 41, 42, 43] (by decide +kernel) (by decide +kernel)
set_option maxRecDepth 20000 in
theorem gX5_turn_X1_isOfKind : GoodIn wsX5_turn (wsV RX5 97 RX1 yX1_isOfKind wsX1_isOfKind) := goodIn_app (goodIn_of _ (by decide +kernel)) ggX5_turn_X1_isOfKind
set_option maxRecDepth 20000 in
theorem ggX5_turn_X5_forgetAnswers : GoodIn wsX5_turn wsX5_forgetAnswers := goodIn_r _ [19, 20, 21, 22, 23, 24, 25, 26, 27, 28, 29, 30, 31] (by decide +kernel) (by decide +kernel)
set_option maxRecDepth 20000 in
theorem gX5_turn_X5_forgetAnswers : GoodIn wsX5_turn (wsV RX5 73 RX5 yX5_forgetAnswers wsX5_forgetAnswers) := goodIn_app (goodIn_of _ (by decide +kernel)) ggX5_turn_X5_forgetAnswers
theorem dX5_turn_0 : decode cX5_turn 0 = .ok (.aload_n 0, 1) := by decide +kernel
theorem dX5_turn_1 : decode cX5_turn 1 = .ok (.getfield 10, 3) := by decide +kernel
theorem dX5_turn_4 : decode cX5_turn 4 = .ok (.iload_n 1, 1) := by decide +kernel
theorem dX5_turn_5 : decode cX5_turn 5 = .ok (.iconst 3, 1) := by decide +kernel
theorem dX5_turn_6 : decode cX5_turn 6 = .ok (.invokevirtual 97, 3) := by decide +kernel
theorem dX5_turn_9 : decode cX5_turn 9 = .ok (.ifCond .ne 5, 3) := by decide +kernel
theorem dX5_turn_12 : decode cX5_turn 12 = .ok (.iconst 0, 1) := by decide +kernel
theorem dX5_turn_13 : decode cX5_turn 13 = .ok (.ireturn, 1) := by decide +kernel
theorem dX5_turn_14 : decode cX5_turn 14 = .ok (.aload_n 0, 1) := by decide +kernel
theorem dX5_turn_15 : decode cX5_turn 15 = .ok (.getfield 10, 3) := by decide +kernel
theorem dX5_turn_18 : decode cX5_turn 18 = .ok (.getfield 105, 3) := by decide +kernel
theorem dX5_turn_21 : decode cX5_turn 21 = .ok (.iload_n 1, 1) := by decide +kernel
theorem dX5_turn_22 : decode cX5_turn 22 = .ok (.iaload, 1) := by decide +kernel
theorem dX5_turn_23 : decode cX5_turn 23 = .ok (.istore_n 2, 1) := by decide +kernel
theorem dX5_turn_24 : decode cX5_turn 24 = .ok (.aload_n 0, 1) := by decide +kernel
theorem dX5_turn_25 : decode cX5_turn 25 = .ok (.getfield 10, 3) := by decide +kernel
theorem dX5_turn_28 : decode cX5_turn 28 = .ok (.getfield 105, 3) := by decide +kernel
theorem dX5_turn_31 : decode cX5_turn 31 = .ok (.iload_n 1, 1) := by decide +kernel
theorem dX5_turn_32 : decode cX5_turn 32 = .ok (.aload_n 0, 1) := by decide +kernel
theorem dX5_turn_33 : decode cX5_turn 33 = .ok (.getfield 10, 3) := by decide +kernel
theorem dX5_turn_36 : decode cX5_turn 36 = .ok (.getfield 108, 3) := by decide +kernel
theorem dX5_turn_39 : decode cX5_turn 39 = .ok (.iload_n 1, 1) := by decide +kernel
theorem dX5_turn_40 : decode cX5_turn 40 = .ok (.iaload, 1) := by decide +kernel
theorem dX5_turn_41 : decode cX5_turn 41 = .ok (.iastore, 1) := by decide +kernel
theorem dX5_turn_42 : decode cX5_turn 42 = .ok (.aload_n 0, 1) := by decide +kernel
theorem dX5_turn_43 : decode cX5_turn 43 = .ok (.getfield 10, 3) := by decide +kernel
theorem dX5_turn_46 : decode cX5_turn 46 = .ok (.getfield 108, 3) := by decide +kernel
theorem dX5_turn_49 : decode cX5_turn 49 = .ok (.iload_n 1, 1) := by decide +kernel
theorem dX5_turn_50 : decode cX5_turn 50 = .ok (.iload_n 2, 1) := by decide +kernel
theorem dX5_turn_51 : decode cX5_turn 51 = .ok (.iastore, 1) := by decide +kernel
theorem dX5_turn_52 : decode cX5_turn 52 = .ok (.aload_n 0, 1) := by decide +kernel
theorem dX5_turn_53 : decode cX5_turn 53 = .ok (.invokevirtual 73, 3) := by decide +kernel
theorem dX5_turn_56 : decode cX5_turn 56 = .ok (.iconst 1, 1) := by decide +kernel
theorem dX5_turn_57 : decode cX5_turn 57 = .ok (.ireturn, 1) := by decide +kernel
set_option maxRecDepth 20000 in
theorem ggX5_cancel_X5_isIn : GoodIn wsX5_cancel wsX5_isIn := goodIn_r _ [6] (by decide +kernel) (by decide +kernel)
set_option maxRecDepth 20000 in
theorem gX5_cancel_X5_isIn : GoodIn wsX5_cancel (va_wsS RX5 65 yX5_isIn wsX5_isIn) := goodIn_app (goodIn_of _ (by decide +kernel)) ggX5_cancel_X5_isIn
set_option maxRecDepth 20000 in
theorem ggX5_cancel_X1_setCancelled : GoodIn wsX5_cancel wsX1_setCancelled := goodIn_r _ [11, 12, 13, 14, 15, 32, 33, 34, 35, 36, 37, 38, 39, 40, 41, 42, 43] (by decide +kernel) (by decide +kernel)
set_option maxRecDepth 20000 in
theorem gX5_cancel_X1_setCancelled : GoodIn wsX5_cancel (wsV RX5 114 RX1 yX1_setCancelled wsX1_setCancelled) := goodIn_app (goodIn_of _ (by decide +kernel)) ggX5_cancel_X1_setCancelled
set_option maxRecDepth 20000 in
theorem ggX5_cancel_X5_forgetAnswers : GoodIn wsX5_cancel wsX5_forgetAnswers := goodIn_r _ [19, 20, 21, 22, 23, 24, 25, 26, 27, 28, 29, 30, 31] (by decide +kernel) (by decide +kernel)
set_option maxRecDepth 20000 in
theorem gX5_cancel_X5_forgetAnswers : GoodIn wsX5_cancel (wsV RX5 73 RX5 yX5_forgetAnswers wsX5_forgetAnswers) := goodIn_app (goodIn_of _ (by decide +kernel)) ggX5_cancel_X5_forgetAnswers
theorem dX5_cancel_0 : decode cX5_cancel 0 = .ok (.iload_n 1, 1) := by decide +kernel
theorem dX5_cancel_1 : decode cX5_cancel 1 = .ok (.iconst 0, 1) := by decide +kernel
theorem dX5_cancel_2 : decode cX5_cancel 2 = .ok (.bipush 15, 2) := by decide +kernel
theorem dX5_cancel_4 : decode cX5_cancel 4 = .ok (.invokestatic 65, 3) := by decide +kernel
theorem dX5_cancel_7 : decode cX5_cancel 7 = .ok (.ifCond .eq 16, 3) := by decide +kernel
theorem dX5_cancel_10 : decode cX5_cancel 10 = .ok (.aload_n 0, 1) := by decide +kernel
theorem dX5_cancel_11 : decode cX5_cancel 11 = .ok (.getfield 10, 3) := by decide +kernel
theorem dX5_cancel_14 : decode cX5_cancel 14 = .ok (.getfield 111, 3) := by decide +kernel
theorem dX5_cancel_17 : decode cX5_cancel 17 = .ok (.iload_n 1, 1) := by decide +kernel
theorem dX5_cancel_18 : decode cX5_cancel 18 = .ok (.baload, 1) := by decide +kernel
theorem dX5_cancel_19 : decode cX5_cancel 19 = .ok (.iload_n 2, 1) := by decide +kernel
theorem dX5_cancel_20 : decode cX5_cancel 20 = .ok (.if_icmp .ne 5, 3) := by decide +kernel
theorem dX5_cancel_23 : decode cX5_cancel 23 = .ok (.iconst 0, 1) := by decide +kernel
theorem dX5_cancel_24 : decode cX5_cancel 24 = .ok (.ireturn, 1) := by decide +kernel
theorem dX5_cancel_25 : decode cX5_cancel 25 = .ok (.aload_n 0, 1) := by decide +kernel
theorem dX5_cancel_26 : decode cX5_cancel 26 = .ok (.getfield 10, 3) := by decide +kernel
theorem dX5_cancel_29 : decode cX5_cancel 29 = .ok (.iload_n 1, 1) := by decide +kernel
theorem dX5_cancel_30 : decode cX5_cancel 30 = .ok (.iload_n 2, 1) := by decide +kernel
theorem dX5_cancel_31 : decode cX5_cancel 31 = .ok (.invokevirtual 114, 3) := by decide +kernel
theorem dX5_cancel_34 : decode cX5_cancel 34 = .ok (.aload_n 0, 1) := by decide +kernel
theorem dX5_cancel_35 : decode cX5_cancel 35 = .ok (.invokevirtual 73, 3) := by decide +kernel
theorem dX5_cancel_38 : decode cX5_cancel 38 = .ok (.iconst 1, 1) := by decide +kernel
theorem dX5_cancel_39 : decode cX5_cancel 39 = .ok (.ireturn, 1) := by decide +kernel
set_option maxRecDepth 20000 in
theorem ggX5_group_X5_isIn : GoodIn wsX5_group wsX5_isIn := goodIn_r _ [6] (by decide +kernel) (by decide +kernel)
set_option maxRecDepth 20000 in
theorem gX5_group_X5_isIn : GoodIn wsX5_group (va_wsS RX5 65 yX5_isIn wsX5_isIn) := goodIn_app (goodIn_of _ (by decide +kernel)) ggX5_group_X5_isIn
set_option maxRecDepth 20000 in
theorem ggX5_group_X4_canGo : GoodIn wsX5_group wsX4_canGo := goodIn_r _ [11, 12, 13, 14, 15, 16, 17, 18, 19, 20, 21, 22, 10, 23, 24, 25, 26, 27, 28, 29, 30, 31, 32, 33, 34, 35, 57, 58, 59, 60, 61, 62, 63, 64, 65, 66, 67, 68, 69, 70, 71, 72, 73, 74, 75, 76] (by decide +kernel) (by decide +kernel)
set_option maxRecDepth 20000 in
theorem gX5_group_X4_canGo : GoodIn wsX5_group (wsV RX5 121 RX4 yX4_canGo wsX4_canGo) := goodIn_app (goodIn_of _ (by decide +kernel)) ggX5_group_X4_canGo
set_option maxRecDepth 20000 in
theorem ggX5_group_X4_add : GoodIn wsX5_group wsX4_add := goodIn_r _ [39, 40, 41, 42, 43, 44, 45, 46, 57, 58, 59, 60, 61, 62, 63, 64] (by decide +kernel) (by decide +kernel)
set_option maxRecDepth 20000 in
theorem gX5_group_X4_add : GoodIn wsX5_group (wsV RX5 125 RX4 yX4_add wsX4_add) := goodIn_app (goodIn_of _ (by decide +kernel)) ggX5_group_X4_add
theorem dX5_group_0 : decode cX5_group 0 = .ok (.iload_n 1, 1) := by decide +kernel
theorem dX5_group_1 : decode cX5_group 1 = .ok (.iconst 1, 1) := by decide +kernel
theorem dX5_group_2 : decode cX5_group 2 = .ok (.sipush 1000, 3) := by decide +kernel
theorem dX5_group_5 : decode cX5_group 5 = .ok (.invokestatic 65, 3) := by decide +kernel
theorem dX5_group_8 : decode cX5_group 8 = .ok (.ifCond .eq 43, 3) := by decide +kernel
theorem dX5_group_11 : decode cX5_group 11 = .ok (.iload 6, 2) := by decide +kernel
theorem dX5_group_13 : decode cX5_group 13 = .ok (.iconst 0, 1) := by decide +kernel
theorem dX5_group_14 : decode cX5_group 14 = .ok (.sipush 1000, 3) := by decide +kernel
theorem dX5_group_17 : decode cX5_group 17 = .ok (.invokestatic 65, 3) := by decide +kernel
theorem dX5_group_20 : decode cX5_group 20 = .ok (.ifCond .eq 31, 3) := by decide +kernel
theorem dX5_group_23 : decode cX5_group 23 = .ok (.aload_n 0, 1) := by decide +kernel
theorem dX5_group_24 : decode cX5_group 24 = .ok (.getfield 21, 3) := by decide +kernel
theorem dX5_group_27 : decode cX5_group 27 = .ok (.getfield 118, 3) := by decide +kernel
theorem dX5_group_30 : decode cX5_group 30 = .ok (.bipush 30, 2) := by decide +kernel
theorem dX5_group_32 : decode cX5_group 32 = .ok (.if_icmp .ge 19, 3) := by decide +kernel
theorem dX5_group_35 : decode cX5_group 35 = .ok (.aload_n 0, 1) := by decide +kernel
theorem dX5_group_36 : decode cX5_group 36 = .ok (.getfield 21, 3) := by decide +kernel
theorem dX5_group_39 : decode cX5_group 39 = .ok (.iload_n 2, 1) := by decide +kernel
theorem dX5_group_40 : decode cX5_group 40 = .ok (.iload_n 3, 1) := by decide +kernel
theorem dX5_group_41 : decode cX5_group 41 = .ok (.iload 4, 2) := by decide +kernel
theorem dX5_group_43 : decode cX5_group 43 = .ok (.iload 5, 2) := by decide +kernel
theorem dX5_group_45 : decode cX5_group 45 = .ok (.invokevirtual 121, 3) := by decide +kernel
theorem dX5_group_48 : decode cX5_group 48 = .ok (.ifCond .ne 5, 3) := by decide +kernel
theorem dX5_group_51 : decode cX5_group 51 = .ok (.iconst (-1), 1) := by decide +kernel
theorem dX5_group_52 : decode cX5_group 52 = .ok (.ireturn, 1) := by decide +kernel
theorem dX5_group_53 : decode cX5_group 53 = .ok (.aload_n 0, 1) := by decide +kernel
theorem dX5_group_54 : decode cX5_group 54 = .ok (.getfield 21, 3) := by decide +kernel
theorem dX5_group_57 : decode cX5_group 57 = .ok (.iload_n 1, 1) := by decide +kernel
theorem dX5_group_58 : decode cX5_group 58 = .ok (.iload_n 2, 1) := by decide +kernel
theorem dX5_group_59 : decode cX5_group 59 = .ok (.iload_n 3, 1) := by decide +kernel
theorem dX5_group_60 : decode cX5_group 60 = .ok (.iload 4, 2) := by decide +kernel
theorem dX5_group_62 : decode cX5_group 62 = .ok (.iload 5, 2) := by decide +kernel
theorem dX5_group_64 : decode cX5_group 64 = .ok (.iload 6, 2) := by decide +kernel
theorem dX5_group_66 : decode cX5_group 66 = .ok (.invokevirtual 125, 3) := by decide +kernel
theorem dX5_group_69 : decode cX5_group 69 = .ok (.ireturn, 1) := by decide +kernel
set_option maxRecDepth 20000 in
theorem ggX5_spread_X5_knowSpread : GoodIn wsX5_spread wsX5_knowSpread := goodIn_r _ [5, 6, 7, 8, 9, 10, 11, 12, 13, 14, 15, 16, 17, 18, 19, 20, 21, 22, 23, 24, 25, 26, 27, 28, 29, 30, 31, 32, 33, 34, 35, 36, 37, 38, 39, 40, 41, 42, 43, 47, 48, 49, 50, 51, 52, 53, 54, 55, 56, 57, 58, 59, 60, 61, 62, 63, 64, 65, 66, 67, 68] (by decide +kernel) (by decide +kernel)
set_option maxRecDepth 20000 in
theorem gX5_spread_X5_knowSpread : GoodIn wsX5_spread (wsV RX5 129 RX5 yX5_knowSpread wsX5_knowSpread) := goodIn_app (goodIn_of _ (by decide +kernel)) ggX5_spread_X5_knowSpread
set_option maxRecDepth 20000 in
theorem ggX5_spread_X5_asNumber : GoodIn wsX5_spread wsX5_asNumber := goodIn_r _ [46] (by decide +kernel) (by decide +kernel)
set_option maxRecDepth 20000 in
theorem gX5_spread_X5_asNumber : GoodIn wsX5_spread (va_wsS RX5 133 yX5_asNumber wsX5_asNumber) := goodIn_app (goodIn_of _ (by decide +kernel)) ggX5_spread_X5_asNumber
theorem dX5_spread_0 : decode cX5_spread 0 = .ok (.aload_n 0, 1) := by decide +kernel
theorem dX5_spread_1 : decode cX5_spread 1 = .ok (.invokevirtual 129, 3) := by decide +kernel
theorem dX5_spread_4 : decode cX5_spread 4 = .ok (.invokestatic 133, 3) := by decide +kernel
theorem dX5_spread_7 : decode cX5_spread 7 = .ok (.ireturn, 1) := by decide +kernel
set_option maxRecDepth 20000 in
theorem ggX5_of_X1_hasEvent : GoodIn wsX5_of wsX1_hasEvent := goodIn_r _ [11, 12, 62, 63, 64, 65, 66, 67, 68, 69, 70, 71, 72, 73] (by decide +kernel) (by decide +kernel)
set_option maxRecDepth 20000 in
theorem gX5_of_X1_hasEvent : GoodIn wsX5_of (wsV RX5 90 RX1 yX1_hasEvent wsX1_hasEvent) := goodIn_app (goodIn_of _ (by decide +kernel)) ggX5_of_X1_hasEvent
set_option maxRecDepth 20000 in
theorem ggX5_of_X5_knowSpread : GoodIn wsX5_of wsX5_knowSpread := goodIn_r _ [17, 18, 1, 3, 19, 20, 21, 22, 10, 23, 12, 24, 25, 26, 27, 28, 29, 30, 31, 32, 33, 34, 35, 36, 37, 38, 39, 40, 41, 42, 43, 44, 45, 46, 47, 48, 49, 50, 51, 52, 53, 54, 55, 56, 57, 58, 59, 60, 61, 62, 63, 64, 65, 66, 67, 68, 69, 70, 71, 72, 73] (by decide +kernel) (by decide +kernel)
set_option maxRecDepth 20000 in
theorem gX5_of_X5_knowSpread : GoodIn wsX5_of (wsV RX5 129 RX5 yX5_knowSpread wsX5_knowSpread) := goodIn_app (goodIn_of _ (by decide +kernel)) ggX5_of_X5_knowSpread
theorem dX5_of_0 : decode cX5_of 0 = .ok (.aload_n 0, 1) := by decide +kernel
theorem dX5_of_1 : decode cX5_of 1 = .ok (.getfield 10, 3) := by decide +kernel
theorem dX5_of_4 : decode cX5_of 4 = .ok (.iload_n 1, 1) := by decide +kernel
theorem dX5_of_5 : decode cX5_of 5 = .ok (.invokevirtual 90, 3) := by decide +kernel
theorem dX5_of_8 : decode cX5_of 8 = .ok (.ifCond .ne 5, 3) := by decide +kernel
theorem dX5_of_11 : decode cX5_of 11 = .ok (.iconst (-1), 1) := by decide +kernel
theorem dX5_of_12 : decode cX5_of 12 = .ok (.ireturn, 1) := by decide +kernel
theorem dX5_of_13 : decode cX5_of 13 = .ok (.iload_n 2, 1) := by decide +kernel
theorem dX5_of_14 : decode cX5_of 14 = .ok (.tableswitch 134 0 4 #[34, 64, 104, 114, 124], 34) := by decide +kernel
theorem dX5_of_48 : decode cX5_of 48 = .ok (.aload_n 0, 1) := by decide +kernel
theorem dX5_of_49 : decode cX5_of 49 = .ok (.invokevirtual 129, 3) := by decide +kernel
theorem dX5_of_52 : decode cX5_of 52 = .ok (.ifCond .eq 24, 3) := by decide +kernel
theorem dX5_of_55 : decode cX5_of 55 = .ok (.aload_n 0, 1) := by decide +kernel
theorem dX5_of_56 : decode cX5_of 56 = .ok (.getfield 10, 3) := by decide +kernel
theorem dX5_of_59 : decode cX5_of 59 = .ok (.getfield 137, 3) := by decide +kernel
theorem dX5_of_62 : decode cX5_of 62 = .ok (.iload_n 1, 1) := by decide +kernel
theorem dX5_of_63 : decode cX5_of 63 = .ok (.baload, 1) := by decide +kernel
theorem dX5_of_64 : decode cX5_of 64 = .ok (.ifCond .eq 12, 3) := by decide +kernel
theorem dX5_of_67 : decode cX5_of 67 = .ok (.aload_n 0, 1) := by decide +kernel
theorem dX5_of_68 : decode cX5_of 68 = .ok (.getfield 48, 3) := by decide +kernel
theorem dX5_of_71 : decode cX5_of 71 = .ok (.iload_n 1, 1) := by decide +kernel
theorem dX5_of_72 : decode cX5_of 72 = .ok (.iaload, 1) := by decide +kernel
theorem dX5_of_73 : decode cX5_of 73 = .ok (.goto 4, 3) := by decide +kernel
theorem dX5_of_76 : decode cX5_of 76 = .ok (.iconst (-1), 1) := by decide +kernel
theorem dX5_of_77 : decode cX5_of 77 = .ok (.ireturn, 1) := by decide +kernel
theorem dX5_of_78 : decode cX5_of 78 = .ok (.aload_n 0, 1) := by decide +kernel
theorem dX5_of_79 : decode cX5_of 79 = .ok (.invokevirtual 129, 3) := by decide +kernel
theorem dX5_of_82 : decode cX5_of 82 = .ok (.ifCond .eq 34, 3) := by decide +kernel
theorem dX5_of_85 : decode cX5_of 85 = .ok (.aload_n 0, 1) := by decide +kernel
theorem dX5_of_86 : decode cX5_of 86 = .ok (.getfield 10, 3) := by decide +kernel
theorem dX5_of_89 : decode cX5_of 89 = .ok (.getfield 137, 3) := by decide +kernel
theorem dX5_of_92 : decode cX5_of 92 = .ok (.iload_n 1, 1) := by decide +kernel
theorem dX5_of_93 : decode cX5_of 93 = .ok (.baload, 1) := by decide +kernel
theorem dX5_of_94 : decode cX5_of 94 = .ok (.ifCond .eq 22, 3) := by decide +kernel
theorem dX5_of_97 : decode cX5_of 97 = .ok (.aload_n 0, 1) := by decide +kernel
theorem dX5_of_98 : decode cX5_of 98 = .ok (.getfield 48, 3) := by decide +kernel
theorem dX5_of_101 : decode cX5_of 101 = .ok (.iload_n 1, 1) := by decide +kernel
theorem dX5_of_102 : decode cX5_of 102 = .ok (.iaload, 1) := by decide +kernel
theorem dX5_of_103 : decode cX5_of 103 = .ok (.aload_n 0, 1) := by decide +kernel
theorem dX5_of_104 : decode cX5_of 104 = .ok (.getfield 10, 3) := by decide +kernel
theorem dX5_of_107 : decode cX5_of 107 = .ok (.getfield 140, 3) := by decide +kernel
theorem dX5_of_110 : decode cX5_of 110 = .ok (.iload_n 1, 1) := by decide +kernel
theorem dX5_of_111 : decode cX5_of 111 = .ok (.iaload, 1) := by decide +kernel
theorem dX5_of_112 : decode cX5_of 112 = .ok (.isub, 1) := by decide +kernel
theorem dX5_of_113 : decode cX5_of 113 = .ok (.goto 4, 3) := by decide +kernel
theorem dX5_of_116 : decode cX5_of 116 = .ok (.iconst (-1), 1) := by decide +kernel
theorem dX5_of_117 : decode cX5_of 117 = .ok (.ireturn, 1) := by decide +kernel
theorem dX5_of_118 : decode cX5_of 118 = .ok (.aload_n 0, 1) := by decide +kernel
theorem dX5_of_119 : decode cX5_of 119 = .ok (.getfield 10, 3) := by decide +kernel
theorem dX5_of_122 : decode cX5_of 122 = .ok (.getfield 140, 3) := by decide +kernel
theorem dX5_of_125 : decode cX5_of 125 = .ok (.iload_n 1, 1) := by decide +kernel
theorem dX5_of_126 : decode cX5_of 126 = .ok (.iaload, 1) := by decide +kernel
theorem dX5_of_127 : decode cX5_of 127 = .ok (.ireturn, 1) := by decide +kernel
theorem dX5_of_128 : decode cX5_of 128 = .ok (.aload_n 0, 1) := by decide +kernel
theorem dX5_of_129 : decode cX5_of 129 = .ok (.getfield 10, 3) := by decide +kernel
theorem dX5_of_132 : decode cX5_of 132 = .ok (.getfield 94, 3) := by decide +kernel
theorem dX5_of_135 : decode cX5_of 135 = .ok (.iload_n 1, 1) := by decide +kernel
theorem dX5_of_136 : decode cX5_of 136 = .ok (.iaload, 1) := by decide +kernel
theorem dX5_of_137 : decode cX5_of 137 = .ok (.ireturn, 1) := by decide +kernel
theorem dX5_of_138 : decode cX5_of 138 = .ok (.aload_n 0, 1) := by decide +kernel
theorem dX5_of_139 : decode cX5_of 139 = .ok (.getfield 10, 3) := by decide +kernel
theorem dX5_of_142 : decode cX5_of 142 = .ok (.getfield 143, 3) := by decide +kernel
theorem dX5_of_145 : decode cX5_of 145 = .ok (.iload_n 1, 1) := by decide +kernel
theorem dX5_of_146 : decode cX5_of 146 = .ok (.iaload, 1) := by decide +kernel
theorem dX5_of_147 : decode cX5_of 147 = .ok (.ireturn, 1) := by decide +kernel
theorem dX5_of_148 : decode cX5_of 148 = .ok (.iconst (-1), 1) := by decide +kernel
theorem dX5_of_149 : decode cX5_of 149 = .ok (.ireturn, 1) := by decide +kernel
set_option maxRecDepth 20000 in
theorem ggX5_look_X1_hasActivity : GoodIn wsX5_look wsX1_hasActivity := goodIn_r _ [11, 12, 77, 78, 79, 80, 81, 82, 83, 84, 85, 86, 87, 88] (by decide +kernel) (by decide +kernel)
set_option maxRecDepth 20000 in
theorem gX5_look_X1_hasActivity : GoodIn wsX5_look (wsV RX5 146 RX1 yX1_hasActivity wsX1_hasActivity) := goodIn_app (goodIn_of _ (by decide +kernel)) ggX5_look_X1_hasActivity
set_option maxRecDepth 20000 in
theorem ggX5_look_X5_asNumber : GoodIn wsX5_look wsX5_asNumber := goodIn_r _ [16] (by decide +kernel) (by decide +kernel)
set_option maxRecDepth 20000 in
theorem gX5_look_X5_asNumber : GoodIn wsX5_look (va_wsS RX5 133 yX5_asNumber wsX5_asNumber) := goodIn_app (goodIn_of _ (by decide +kernel)) ggX5_look_X5_asNumber
set_option maxRecDepth 20000 in
theorem ggX5_look_X5_knowSpread : GoodIn wsX5_look wsX5_knowSpread := goodIn_r _ [20, 21, 1, 22, 23, 24, 25, 26, 10, 27, 28, 29, 30, 31, 32, 33, 34, 35, 36, 37, 38, 12, 39, 40, 41, 42, 43, 44, 45, 46, 47, 48, 49, 50, 51, 52, 53, 54, 55, 67, 68, 69, 70, 71, 72, 73, 74, 75, 76, 77, 78, 79, 80, 81, 82, 83, 84, 85, 86, 87, 88] (by decide +kernel) (by decide +kernel)
set_option maxRecDepth 20000 in
theorem gX5_look_X5_knowSpread : GoodIn wsX5_look (wsV RX5 129 RX5 yX5_knowSpread wsX5_knowSpread) := goodIn_app (goodIn_of _ (by decide +kernel)) ggX5_look_X5_knowSpread
set_option maxRecDepth 20000 in
theorem ggX5_look_X5_binds : GoodIn wsX5_look wsX5_binds := goodIn_r _ [59, 1, 4, 22, 3, 5, 60, 61, 62, 52, 53, 10, 54, 55, 40, 39, 67, 68, 69, 70, 71, 72, 73, 74, 75, 76, 77, 78, 79, 80, 81, 82, 83, 84, 85, 86, 87, 88] (by decide +kernel) (by decide +kernel)
set_option maxRecDepth 20000 in
theorem gX5_look_X5_binds : GoodIn wsX5_look (wsV RX5 155 RX5 yX5_binds wsX5_binds) := goodIn_app (goodIn_of _ (by decide +kernel)) ggX5_look_X5_binds
set_option maxRecDepth 20000 in
theorem ggX5_look_X1_slack : GoodIn wsX5_look wsX1_slack := goodIn_r _ [66, 29, 39, 40, 41, 77, 78, 79, 80, 81, 82, 83, 84, 85, 86, 87, 88] (by decide +kernel) (by decide +kernel)
set_option maxRecDepth 20000 in
theorem gX5_look_X1_slack : GoodIn wsX5_look (wsV RX5 158 RX1 yX1_slack wsX1_slack) := goodIn_app (goodIn_of _ (by decide +kernel)) ggX5_look_X1_slack
theorem dX5_look_0 : decode cX5_look 0 = .ok (.aload_n 0, 1) := by decide +kernel
theorem dX5_look_1 : decode cX5_look 1 = .ok (.getfield 10, 3) := by decide +kernel
theorem dX5_look_4 : decode cX5_look 4 = .ok (.iload_n 1, 1) := by decide +kernel
theorem dX5_look_5 : decode cX5_look 5 = .ok (.invokevirtual 146, 3) := by decide +kernel
theorem dX5_look_8 : decode cX5_look 8 = .ok (.ifCond .ne 5, 3) := by decide +kernel
theorem dX5_look_11 : decode cX5_look 11 = .ok (.iconst (-1), 1) := by decide +kernel
theorem dX5_look_12 : decode cX5_look 12 = .ok (.ireturn, 1) := by decide +kernel
theorem dX5_look_13 : decode cX5_look 13 = .ok (.iload_n 2, 1) := by decide +kernel
theorem dX5_look_14 : decode cX5_look 14 = .ok (.tableswitch 128 0 6 #[42, 52, 62, 72, 82, 95, 119], 42) := by decide +kernel
theorem dX5_look_56 : decode cX5_look 56 = .ok (.aload_n 0, 1) := by decide +kernel
theorem dX5_look_57 : decode cX5_look 57 = .ok (.getfield 10, 3) := by decide +kernel
theorem dX5_look_60 : decode cX5_look 60 = .ok (.getfield 149, 3) := by decide +kernel
theorem dX5_look_63 : decode cX5_look 63 = .ok (.iload_n 1, 1) := by decide +kernel
theorem dX5_look_64 : decode cX5_look 64 = .ok (.iaload, 1) := by decide +kernel
theorem dX5_look_65 : decode cX5_look 65 = .ok (.ireturn, 1) := by decide +kernel
theorem dX5_look_66 : decode cX5_look 66 = .ok (.aload_n 0, 1) := by decide +kernel
theorem dX5_look_67 : decode cX5_look 67 = .ok (.getfield 10, 3) := by decide +kernel
theorem dX5_look_70 : decode cX5_look 70 = .ok (.getfield 105, 3) := by decide +kernel
theorem dX5_look_73 : decode cX5_look 73 = .ok (.iload_n 1, 1) := by decide +kernel
theorem dX5_look_74 : decode cX5_look 74 = .ok (.iaload, 1) := by decide +kernel
theorem dX5_look_75 : decode cX5_look 75 = .ok (.ireturn, 1) := by decide +kernel
theorem dX5_look_76 : decode cX5_look 76 = .ok (.aload_n 0, 1) := by decide +kernel
theorem dX5_look_77 : decode cX5_look 77 = .ok (.getfield 10, 3) := by decide +kernel
theorem dX5_look_80 : decode cX5_look 80 = .ok (.getfield 108, 3) := by decide +kernel
theorem dX5_look_83 : decode cX5_look 83 = .ok (.iload_n 1, 1) := by decide +kernel
theorem dX5_look_84 : decode cX5_look 84 = .ok (.iaload, 1) := by decide +kernel
theorem dX5_look_85 : decode cX5_look 85 = .ok (.ireturn, 1) := by decide +kernel
theorem dX5_look_86 : decode cX5_look 86 = .ok (.aload_n 0, 1) := by decide +kernel
theorem dX5_look_87 : decode cX5_look 87 = .ok (.getfield 10, 3) := by decide +kernel
theorem dX5_look_90 : decode cX5_look 90 = .ok (.getfield 152, 3) := by decide +kernel
theorem dX5_look_93 : decode cX5_look 93 = .ok (.iload_n 1, 1) := by decide +kernel
theorem dX5_look_94 : decode cX5_look 94 = .ok (.iaload, 1) := by decide +kernel
theorem dX5_look_95 : decode cX5_look 95 = .ok (.ireturn, 1) := by decide +kernel
theorem dX5_look_96 : decode cX5_look 96 = .ok (.aload_n 0, 1) := by decide +kernel
theorem dX5_look_97 : decode cX5_look 97 = .ok (.getfield 10, 3) := by decide +kernel
theorem dX5_look_100 : decode cX5_look 100 = .ok (.getfield 101, 3) := by decide +kernel
theorem dX5_look_103 : decode cX5_look 103 = .ok (.iload_n 1, 1) := by decide +kernel
theorem dX5_look_104 : decode cX5_look 104 = .ok (.baload, 1) := by decide +kernel
theorem dX5_look_105 : decode cX5_look 105 = .ok (.invokestatic 133, 3) := by decide +kernel
theorem dX5_look_108 : decode cX5_look 108 = .ok (.ireturn, 1) := by decide +kernel
theorem dX5_look_109 : decode cX5_look 109 = .ok (.aload_n 0, 1) := by decide +kernel
theorem dX5_look_110 : decode cX5_look 110 = .ok (.invokevirtual 129, 3) := by decide +kernel
theorem dX5_look_113 : decode cX5_look 113 = .ok (.ifCond .eq 15, 3) := by decide +kernel
theorem dX5_look_116 : decode cX5_look 116 = .ok (.aload_n 0, 1) := by decide +kernel
theorem dX5_look_117 : decode cX5_look 117 = .ok (.iload_n 1, 1) := by decide +kernel
theorem dX5_look_118 : decode cX5_look 118 = .ok (.invokevirtual 155, 3) := by decide +kernel
theorem dX5_look_121 : decode cX5_look 121 = .ok (.ifCond .eq 7, 3) := by decide +kernel
theorem dX5_look_124 : decode cX5_look 124 = .ok (.iconst 1, 1) := by decide +kernel
theorem dX5_look_125 : decode cX5_look 125 = .ok (.goto 4, 3) := by decide +kernel
theorem dX5_look_128 : decode cX5_look 128 = .ok (.iconst 0, 1) := by decide +kernel
theorem dX5_look_129 : decode cX5_look 129 = .ok (.invokestatic 133, 3) := by decide +kernel
theorem dX5_look_132 : decode cX5_look 132 = .ok (.ireturn, 1) := by decide +kernel
theorem dX5_look_133 : decode cX5_look 133 = .ok (.aload_n 0, 1) := by decide +kernel
theorem dX5_look_134 : decode cX5_look 134 = .ok (.getfield 10, 3) := by decide +kernel
theorem dX5_look_137 : decode cX5_look 137 = .ok (.iload_n 1, 1) := by decide +kernel
theorem dX5_look_138 : decode cX5_look 138 = .ok (.invokevirtual 158, 3) := by decide +kernel
theorem dX5_look_141 : decode cX5_look 141 = .ok (.ireturn, 1) := by decide +kernel
theorem dX5_look_142 : decode cX5_look 142 = .ok (.iconst (-1), 1) := by decide +kernel
theorem dX5_look_143 : decode cX5_look 143 = .ok (.ireturn, 1) := by decide +kernel
set_option maxRecDepth 20000 in
theorem ggX5_cause_X5_knowSpread : GoodIn wsX5_cause wsX5_knowSpread := goodIn_r _ [5, 6, 7, 8, 9, 10, 11, 12, 13, 14, 15, 16, 17, 18, 19, 20, 21, 22, 23, 24, 25, 26, 27, 28, 29, 30, 31, 32, 33, 34, 35, 36, 37, 38, 39, 40, 41, 42, 43, 68, 69, 70, 71, 72, 73, 74, 75, 76, 77, 78, 79, 80, 81, 82, 83, 84, 85, 86, 87, 88, 89] (by decide +kernel) (by decide +kernel)
set_option maxRecDepth 20000 in
theorem gX5_cause_X5_knowSpread : GoodIn wsX5_cause (wsV RX5 129 RX5 yX5_knowSpread wsX5_knowSpread) := goodIn_app (goodIn_of _ (by decide +kernel)) ggX5_cause_X5_knowSpread
set_option maxRecDepth 20000 in
theorem ggX5_cause_X5_isLate : GoodIn wsX5_cause wsX5_isLate := goodIn_r _ [47, 7, 48, 8, 49, 50, 51, 52, 13, 53, 15, 68, 69, 70, 71, 72, 73, 74, 75, 76, 77, 78, 79, 80, 81, 82, 83, 84, 85, 86, 87, 88, 89] (by decide +kernel) (by decide +kernel)
set_option maxRecDepth 20000 in
theorem gX5_cause_X5_isLate : GoodIn wsX5_cause (wsV RX5 162 RX5 yX5_isLate wsX5_isLate) := goodIn_app (goodIn_of _ (by decide +kernel)) ggX5_cause_X5_isLate
set_option maxRecDepth 20000 in
theorem ggX5_cause_X5_causeOfLate : GoodIn wsX5_cause wsX5_causeOfLate := goodIn_r _ [57, 7, 58, 59, 60, 61, 62, 63, 4, 64, 8, 65, 49, 66, 67, 40, 41, 13, 42, 43, 28, 27, 44, 45, 46, 47, 48, 50, 51, 52, 53, 15, 68, 69, 70, 71, 72, 73, 74, 75, 76, 77, 78, 79, 80, 81, 82, 83, 84, 85, 86, 87, 88, 89] (by decide +kernel) (by decide +kernel)
set_option maxRecDepth 20000 in
theorem gX5_cause_X5_causeOfLate : GoodIn wsX5_cause (wsV RX5 165 RX5 yX5_causeOfLate wsX5_causeOfLate) := goodIn_app (goodIn_of _ (by decide +kernel)) ggX5_cause_X5_causeOfLate
theorem dX5_cause_0 : decode cX5_cause 0 = .ok (.aload_n 0, 1) := by decide +kernel
theorem dX5_cause_1 : decode cX5_cause 1 = .ok (.invokevirtual 129, 3) := by decide +kernel
theorem dX5_cause_4 : decode cX5_cause 4 = .ok (.ifCond .eq 19, 3) := by decide +kernel
theorem dX5_cause_7 : decode cX5_cause 7 = .ok (.aload_n 0, 1) := by decide +kernel
theorem dX5_cause_8 : decode cX5_cause 8 = .ok (.iload_n 1, 1) := by decide +kernel
theorem dX5_cause_9 : decode cX5_cause 9 = .ok (.invokevirtual 162, 3) := by decide +kernel
theorem dX5_cause_12 : decode cX5_cause 12 = .ok (.ifCond .eq 11, 3) := by decide +kernel
theorem dX5_cause_15 : decode cX5_cause 15 = .ok (.aload_n 0, 1) := by decide +kernel
theorem dX5_cause_16 : decode cX5_cause 16 = .ok (.iload_n 1, 1) := by decide +kernel
theorem dX5_cause_17 : decode cX5_cause 17 = .ok (.invokevirtual 165, 3) := by decide +kernel
theorem dX5_cause_20 : decode cX5_cause 20 = .ok (.goto 4, 3) := by decide +kernel
theorem dX5_cause_23 : decode cX5_cause 23 = .ok (.iconst (-1), 1) := by decide +kernel
theorem dX5_cause_24 : decode cX5_cause 24 = .ok (.ireturn, 1) := by decide +kernel
set_option maxRecDepth 20000 in
theorem ggX5_way_X5_knowSpread : GoodIn wsX5_way wsX5_knowSpread := goodIn_r _ [8, 9, 2, 10, 11, 12, 13, 14, 15, 16, 17, 18, 19, 20, 21, 22, 23, 24, 25, 26, 27, 28, 29, 30, 31, 32, 33, 34, 35, 36, 37, 38, 39, 40, 41, 42, 43, 44, 45, 76, 77, 78, 79, 80, 81, 82, 83, 84, 85, 86, 87, 88, 89, 90, 91, 92, 93, 94, 95, 96, 97] (by decide +kernel) (by decide +kernel)
set_option maxRecDepth 20000 in
theorem gX5_way_X5_knowSpread : GoodIn wsX5_way (wsV RX5 129 RX5 yX5_knowSpread wsX5_knowSpread) := goodIn_app (goodIn_of _ (by decide +kernel)) ggX5_way_X5_knowSpread
set_option maxRecDepth 20000 in
theorem ggX5_way_X5_isLate : GoodIn wsX5_way wsX5_isLate := goodIn_r _ [49, 2, 50, 10, 51, 52, 53, 54, 15, 55, 17, 76, 77, 78, 79, 80, 81, 82, 83, 84, 85, 86, 87, 88, 89, 90, 91, 92, 93, 94, 95, 96, 97] (by decide +kernel) (by decide +kernel)
set_option maxRecDepth 20000 in
theorem gX5_way_X5_isLate : GoodIn wsX5_way (wsV RX5 162 RX5 yX5_isLate wsX5_isLate) := goodIn_app (goodIn_of _ (by decide +kernel)) ggX5_way_X5_isLate
set_option maxRecDepth 20000 in
theorem ggX5_way_X5_isIn : GoodIn wsX5_way wsX5_isIn := goodIn_r _ [58] (by decide +kernel) (by decide +kernel)
set_option maxRecDepth 20000 in
theorem gX5_way_X5_isIn : GoodIn wsX5_way (va_wsS RX5 65 yX5_isIn wsX5_isIn) := goodIn_app (goodIn_of _ (by decide +kernel)) ggX5_way_X5_isIn
set_option maxRecDepth 20000 in
theorem ggX5_way_J7_fill_53178 : GoodIn wsX5_way wsJ7_fill_53178 := goodIn_r _ [62] (by decide +kernel) (by decide +kernel)
set_option maxRecDepth 20000 in
theorem gX5_way_J7_fill_53178 : GoodIn wsX5_way (va_wsS RX5 168 yJ7_fill_53178 wsJ7_fill_53178) := goodIn_app (goodIn_of _ (by decide +kernel)) ggX5_way_J7_fill_53178
set_option maxRecDepth 20000 in
theorem ggX5_way_X5_causeOfLate : GoodIn wsX5_way wsX5_causeOfLate := goodIn_r _ [66, 2, 67, 68, 3, 69, 70, 71, 7, 72, 10, 73, 51, 74, 75, 42, 43, 15, 44, 45, 30, 29, 46, 47, 48, 49, 50, 52, 53, 54, 55, 17, 76, 77, 78, 79, 80, 81, 82, 83, 84, 85, 86, 87, 88, 89, 90, 91, 92, 93, 94, 95, 96, 97] (by decide +kernel) (by decide +kernel)
set_option maxRecDepth 20000 in
theorem gX5_way_X5_causeOfLate : GoodIn wsX5_way (wsV RX5 165 RX5 yX5_causeOfLate wsX5_causeOfLate) := goodIn_app (goodIn_of _ (by decide +kernel)) ggX5_way_X5_causeOfLate
theorem dX5_way_0 : decode cX5_way 0 = .ok (.aload_n 0, 1) := by decide +kernel
theorem dX5_way_1 : decode cX5_way 1 = .ok (.invokevirtual 129, 3) := by decide +kernel
theorem dX5_way_4 : decode cX5_way 4 = .ok (.ifCond .eq 21, 3) := by decide +kernel
theorem dX5_way_7 : decode cX5_way 7 = .ok (.aload_n 0, 1) := by decide +kernel
theorem dX5_way_8 : decode cX5_way 8 = .ok (.iload_n 1, 1) := by decide +kernel
theorem dX5_way_9 : decode cX5_way 9 = .ok (.invokevirtual 162, 3) := by decide +kernel
theorem dX5_way_12 : decode cX5_way 12 = .ok (.ifCond .eq 13, 3) := by decide +kernel
theorem dX5_way_15 : decode cX5_way 15 = .ok (.iload_n 2, 1) := by decide +kernel
theorem dX5_way_16 : decode cX5_way 16 = .ok (.iconst 0, 1) := by decide +kernel
theorem dX5_way_17 : decode cX5_way 17 = .ok (.bipush 59, 2) := by decide +kernel
theorem dX5_way_19 : decode cX5_way 19 = .ok (.invokestatic 65, 3) := by decide +kernel
theorem dX5_way_22 : decode cX5_way 22 = .ok (.ifCond .ne 5, 3) := by decide +kernel
theorem dX5_way_25 : decode cX5_way 25 = .ok (.iconst (-1), 1) := by decide +kernel
theorem dX5_way_26 : decode cX5_way 26 = .ok (.ireturn, 1) := by decide +kernel
theorem dX5_way_27 : decode cX5_way 27 = .ok (.aload_n 0, 1) := by decide +kernel
theorem dX5_way_28 : decode cX5_way 28 = .ok (.getfield 52, 3) := by decide +kernel
theorem dX5_way_31 : decode cX5_way 31 = .ok (.iconst 0, 1) := by decide +kernel
theorem dX5_way_32 : decode cX5_way 32 = .ok (.invokestatic 168, 3) := by decide +kernel
theorem dX5_way_35 : decode cX5_way 35 = .ok (.iload_n 1, 1) := by decide +kernel
theorem dX5_way_36 : decode cX5_way 36 = .ok (.istore_n 3, 1) := by decide +kernel
theorem dX5_way_37 : decode cX5_way 37 = .ok (.iconst 0, 1) := by decide +kernel
theorem dX5_way_38 : decode cX5_way 38 = .ok (.istore 4, 2) := by decide +kernel
theorem dX5_way_40 : decode cX5_way 40 = .ok (.iload 4, 2) := by decide +kernel
theorem dX5_way_42 : decode cX5_way 42 = .ok (.iload_n 2, 1) := by decide +kernel
theorem dX5_way_43 : decode cX5_way 43 = .ok (.if_icmp .ge 60, 3) := by decide +kernel
theorem dX5_way_46 : decode cX5_way 46 = .ok (.aload_n 0, 1) := by decide +kernel
theorem dX5_way_47 : decode cX5_way 47 = .ok (.getfield 52, 3) := by decide +kernel
theorem dX5_way_50 : decode cX5_way 50 = .ok (.iload_n 3, 1) := by decide +kernel
theorem dX5_way_51 : decode cX5_way 51 = .ok (.iconst 1, 1) := by decide +kernel
theorem dX5_way_52 : decode cX5_way 52 = .ok (.iastore, 1) := by decide +kernel
theorem dX5_way_53 : decode cX5_way 53 = .ok (.aload_n 0, 1) := by decide +kernel
theorem dX5_way_54 : decode cX5_way 54 = .ok (.iload_n 3, 1) := by decide +kernel
theorem dX5_way_55 : decode cX5_way 55 = .ok (.invokevirtual 165, 3) := by decide +kernel
theorem dX5_way_58 : decode cX5_way 58 = .ok (.istore 5, 2) := by decide +kernel
theorem dX5_way_60 : decode cX5_way 60 = .ok (.iload 5, 2) := by decide +kernel
theorem dX5_way_62 : decode cX5_way 62 = .ok (.iconst (-1), 1) := by decide +kernel
theorem dX5_way_63 : decode cX5_way 63 = .ok (.if_icmp .eq 21, 3) := by decide +kernel
theorem dX5_way_66 : decode cX5_way 66 = .ok (.aload_n 0, 1) := by decide +kernel
theorem dX5_way_67 : decode cX5_way 67 = .ok (.getfield 52, 3) := by decide +kernel
theorem dX5_way_70 : decode cX5_way 70 = .ok (.aload_n 0, 1) := by decide +kernel
theorem dX5_way_71 : decode cX5_way 71 = .ok (.getfield 10, 3) := by decide +kernel
theorem dX5_way_74 : decode cX5_way 74 = .ok (.getfield 105, 3) := by decide +kernel
theorem dX5_way_77 : decode cX5_way 77 = .ok (.iload 5, 2) := by decide +kernel
theorem dX5_way_79 : decode cX5_way 79 = .ok (.iaload, 1) := by decide +kernel
theorem dX5_way_80 : decode cX5_way 80 = .ok (.iaload, 1) := by decide +kernel
theorem dX5_way_81 : decode cX5_way 81 = .ok (.ifCond .eq 5, 3) := by decide +kernel
theorem dX5_way_84 : decode cX5_way 84 = .ok (.iconst (-1), 1) := by decide +kernel
theorem dX5_way_85 : decode cX5_way 85 = .ok (.ireturn, 1) := by decide +kernel
theorem dX5_way_86 : decode cX5_way 86 = .ok (.aload_n 0, 1) := by decide +kernel
theorem dX5_way_87 : decode cX5_way 87 = .ok (.getfield 10, 3) := by decide +kernel
theorem dX5_way_90 : decode cX5_way 90 = .ok (.getfield 105, 3) := by decide +kernel
theorem dX5_way_93 : decode cX5_way 93 = .ok (.iload 5, 2) := by decide +kernel
theorem dX5_way_95 : decode cX5_way 95 = .ok (.iaload, 1) := by decide +kernel
theorem dX5_way_96 : decode cX5_way 96 = .ok (.istore_n 3, 1) := by decide +kernel
theorem dX5_way_97 : decode cX5_way 97 = .ok (.iinc 4 1, 3) := by decide +kernel
theorem dX5_way_100 : decode cX5_way 100 = .ok (.goto (-60), 3) := by decide +kernel
theorem dX5_way_103 : decode cX5_way 103 = .ok (.iload_n 3, 1) := by decide +kernel
theorem dX5_way_104 : decode cX5_way 104 = .ok (.ireturn, 1) := by decide +kernel
set_option maxRecDepth 20000 in
theorem ggX5_ring_X5_knowSpread : GoodIn wsX5_ring wsX5_knowSpread := goodIn_r _ [9, 10, 11, 12, 13, 14, 15, 16, 17, 18, 19, 20, 21, 22, 23, 24, 25, 26, 27, 28, 29, 30, 31, 32, 33, 34, 35, 36, 37, 38, 39, 40, 41, 42, 43, 44, 45, 46, 47, 109, 110, 111, 112, 113, 114, 115, 116, 117, 118, 126, 127, 128, 129, 130, 131, 132, 133, 134, 135, 136, 137] (by decide +kernel) (by decide +kernel)
set_option maxRecDepth 20000 in
theorem gX5_ring_X5_knowSpread : GoodIn wsX5_ring (wsV RX5 129 RX5 yX5_knowSpread wsX5_knowSpread) := goodIn_app (goodIn_of _ (by decide +kernel)) ggX5_ring_X5_knowSpread
set_option maxRecDepth 20000 in
theorem ggX5_ring_X2_find : GoodIn wsX5_ring wsX2_find := goodIn_r _ [52, 53, 54, 55, 56, 51, 57, 58, 59, 60, 61, 62, 39, 40, 17, 41, 42, 43, 44, 45, 46, 47, 32, 31, 63, 64, 65, 66, 67, 68, 69, 70, 71, 72, 73, 74, 75, 76, 77, 78, 79, 80, 81, 82, 83, 84, 85, 86, 87, 88, 89, 90, 91, 92, 93, 94, 95, 96, 97, 98, 99, 100, 101, 102, 103, 104, 105, 119, 120, 121, 122, 123, 124, 125, 126, 127, 128, 129, 130, 131, 132, 133, 134, 135, 136, 137] (by decide +kernel) (by decide +kernel)
set_option maxRecDepth 20000 in
theorem gX5_ring_X2_find : GoodIn wsX5_ring (wsV RX5 174 RX2 yX2_find wsX2_find) := goodIn_app (goodIn_of _ (by decide +kernel)) ggX5_ring_X2_find
set_option maxRecDepth 20000 in
theorem ggX5_ring_X5_isIn : GoodIn wsX5_ring wsX5_isIn := goodIn_r _ [108] (by decide +kernel) (by decide +kernel)
set_option maxRecDepth 20000 in
theorem gX5_ring_X5_isIn : GoodIn wsX5_ring (va_wsS RX5 65 yX5_isIn wsX5_isIn) := goodIn_app (goodIn_of _ (by decide +kernel)) ggX5_ring_X5_isIn
theorem dX5_ring_0 : decode cX5_ring 0 = .ok (.aload_n 0, 1) := by decide +kernel
theorem dX5_ring_1 : decode cX5_ring 1 = .ok (.invokevirtual 129, 3) := by decide +kernel
theorem dX5_ring_4 : decode cX5_ring 4 = .ok (.ifCond .eq 5, 3) := by decide +kernel
theorem dX5_ring_7 : decode cX5_ring 7 = .ok (.iconst (-1), 1) := by decide +kernel
theorem dX5_ring_8 : decode cX5_ring 8 = .ok (.ireturn, 1) := by decide +kernel
theorem dX5_ring_9 : decode cX5_ring 9 = .ok (.aload_n 0, 1) := by decide +kernel
theorem dX5_ring_10 : decode cX5_ring 10 = .ok (.getfield 62, 3) := by decide +kernel
theorem dX5_ring_13 : decode cX5_ring 13 = .ok (.ifCond .ne 15, 3) := by decide +kernel
theorem dX5_ring_16 : decode cX5_ring 16 = .ok (.aload_n 0, 1) := by decide +kernel
theorem dX5_ring_17 : decode cX5_ring 17 = .ok (.getfield 28, 3) := by decide +kernel
theorem dX5_ring_20 : decode cX5_ring 20 = .ok (.invokevirtual 174, 3) := by decide +kernel
theorem dX5_ring_23 : decode cX5_ring 23 = .ok (.aload_n 0, 1) := by decide +kernel
theorem dX5_ring_24 : decode cX5_ring 24 = .ok (.iconst 1, 1) := by decide +kernel
theorem dX5_ring_25 : decode cX5_ring 25 = .ok (.putfield 62, 3) := by decide +kernel
theorem dX5_ring_28 : decode cX5_ring 28 = .ok (.iload_n 1, 1) := by decide +kernel
theorem dX5_ring_29 : decode cX5_ring 29 = .ok (.iconst 0, 1) := by decide +kernel
theorem dX5_ring_30 : decode cX5_ring 30 = .ok (.aload_n 0, 1) := by decide +kernel
theorem dX5_ring_31 : decode cX5_ring 31 = .ok (.getfield 28, 3) := by decide +kernel
theorem dX5_ring_34 : decode cX5_ring 34 = .ok (.getfield 177, 3) := by decide +kernel
theorem dX5_ring_37 : decode cX5_ring 37 = .ok (.iconst 1, 1) := by decide +kernel
theorem dX5_ring_38 : decode cX5_ring 38 = .ok (.isub, 1) := by decide +kernel
theorem dX5_ring_39 : decode cX5_ring 39 = .ok (.invokestatic 65, 3) := by decide +kernel
theorem dX5_ring_42 : decode cX5_ring 42 = .ok (.ifCond .eq 15, 3) := by decide +kernel
theorem dX5_ring_45 : decode cX5_ring 45 = .ok (.aload_n 0, 1) := by decide +kernel
theorem dX5_ring_46 : decode cX5_ring 46 = .ok (.getfield 28, 3) := by decide +kernel
theorem dX5_ring_49 : decode cX5_ring 49 = .ok (.getfield 180, 3) := by decide +kernel
theorem dX5_ring_52 : decode cX5_ring 52 = .ok (.iload_n 1, 1) := by decide +kernel
theorem dX5_ring_53 : decode cX5_ring 53 = .ok (.iaload, 1) := by decide +kernel
theorem dX5_ring_54 : decode cX5_ring 54 = .ok (.goto 4, 3) := by decide +kernel
theorem dX5_ring_57 : decode cX5_ring 57 = .ok (.iconst (-1), 1) := by decide +kernel
theorem dX5_ring_58 : decode cX5_ring 58 = .ok (.ireturn, 1) := by decide +kernel
set_option maxRecDepth 20000 in
theorem ggX5_told_X4_hasGroup : GoodIn wsX5_told wsX4_hasGroup := goodIn_r _ [8, 9, 90, 91, 92, 93, 94, 95, 96, 97] (by decide +kernel) (by decide +kernel)
set_option maxRecDepth 20000 in
theorem gX5_told_X4_hasGroup : GoodIn wsX5_told (wsV RX5 183 RX4 yX4_hasGroup wsX4_hasGroup) := goodIn_app (goodIn_of _ (by decide +kernel)) ggX5_told_X4_hasGroup
set_option maxRecDepth 20000 in
theorem ggX5_told_X5_knowSpread : GoodIn wsX5_told wsX5_knowSpread := goodIn_r _ [14, 15, 16, 2, 17, 18, 19, 20, 21, 22, 23, 24, 25, 26, 27, 28, 29, 30, 31, 32, 33, 34, 35, 36, 37, 38, 39, 40, 41, 42, 43, 44, 45, 46, 47, 48, 49, 50, 51, 80, 81, 82, 83, 84, 85, 86, 87, 88, 89, 98, 99, 100, 101, 102, 103, 104, 105, 106, 107, 108, 109] (by decide +kernel) (by decide +kernel)
set_option maxRecDepth 20000 in
theorem gX5_told_X5_knowSpread : GoodIn wsX5_told (wsV RX5 129 RX5 yX5_knowSpread wsX5_knowSpread) := goodIn_app (goodIn_of _ (by decide +kernel)) ggX5_told_X5_knowSpread
set_option maxRecDepth 20000 in
theorem ggX5_told_X4_lateness : GoodIn wsX5_told wsX4_lateness := goodIn_r _ [55, 56, 57, 58, 59, 60, 61, 62, 7, 63, 64, 65, 66, 67, 68, 69, 70, 71, 72, 73, 74, 75, 90, 91, 92, 93, 94, 95, 96, 97, 98, 99, 100, 101, 102, 103, 104, 105, 106, 107, 108, 109] (by decide +kernel) (by decide +kernel)
set_option maxRecDepth 20000 in
theorem gX5_told_X4_lateness : GoodIn wsX5_told (wsV RX5 186 RX4 yX4_lateness wsX4_lateness) := goodIn_app (goodIn_of _ (by decide +kernel)) ggX5_told_X4_lateness
set_option maxRecDepth 20000 in
theorem ggX5_told_X4_isStranded : GoodIn wsX5_told wsX4_isStranded := goodIn_r _ [63, 58, 64, 65, 66, 67, 68, 69, 70, 7, 71, 72, 73, 74, 75, 90, 91, 92, 93, 94, 95, 96, 97, 98, 99, 100, 101, 102, 103, 104, 105, 106, 107, 108, 109] (by decide +kernel) (by decide +kernel)
set_option maxRecDepth 20000 in
theorem gX5_told_X4_isStranded : GoodIn wsX5_told (wsV RX5 190 RX4 yX4_isStranded wsX4_isStranded) := goodIn_app (goodIn_of _ (by decide +kernel)) ggX5_told_X4_isStranded
set_option maxRecDepth 20000 in
theorem ggX5_told_X5_asNumber : GoodIn wsX5_told wsX5_asNumber := goodIn_r _ [79] (by decide +kernel) (by decide +kernel)
set_option maxRecDepth 20000 in
theorem gX5_told_X5_asNumber : GoodIn wsX5_told (va_wsS RX5 133 yX5_asNumber wsX5_asNumber) := goodIn_app (goodIn_of _ (by decide +kernel)) ggX5_told_X5_asNumber
theorem dX5_told_0 : decode cX5_told 0 = .ok (.aload_n 0, 1) := by decide +kernel
theorem dX5_told_1 : decode cX5_told 1 = .ok (.getfield 21, 3) := by decide +kernel
theorem dX5_told_4 : decode cX5_told 4 = .ok (.iload_n 1, 1) := by decide +kernel
theorem dX5_told_5 : decode cX5_told 5 = .ok (.invokevirtual 183, 3) := by decide +kernel
theorem dX5_told_8 : decode cX5_told 8 = .ok (.ifCond .ne 5, 3) := by decide +kernel
theorem dX5_told_11 : decode cX5_told 11 = .ok (.iconst (-1), 1) := by decide +kernel
theorem dX5_told_12 : decode cX5_told 12 = .ok (.ireturn, 1) := by decide +kernel
theorem dX5_told_13 : decode cX5_told 13 = .ok (.iload_n 2, 1) := by decide +kernel
theorem dX5_told_14 : decode cX5_told 14 = .ok (.tableswitch 87 0 2 #[26, 50, 77], 26) := by decide +kernel
theorem dX5_told_40 : decode cX5_told 40 = .ok (.aload_n 0, 1) := by decide +kernel
theorem dX5_told_41 : decode cX5_told 41 = .ok (.invokevirtual 129, 3) := by decide +kernel
theorem dX5_told_44 : decode cX5_told 44 = .ok (.ifCond .eq 18, 3) := by decide +kernel
theorem dX5_told_47 : decode cX5_told 47 = .ok (.aload_n 0, 1) := by decide +kernel
theorem dX5_told_48 : decode cX5_told 48 = .ok (.getfield 21, 3) := by decide +kernel
theorem dX5_told_51 : decode cX5_told 51 = .ok (.iload_n 1, 1) := by decide +kernel
theorem dX5_told_52 : decode cX5_told 52 = .ok (.aload_n 0, 1) := by decide +kernel
theorem dX5_told_53 : decode cX5_told 53 = .ok (.getfield 48, 3) := by decide +kernel
theorem dX5_told_56 : decode cX5_told 56 = .ok (.invokevirtual 186, 3) := by decide +kernel
theorem dX5_told_59 : decode cX5_told 59 = .ok (.goto 4, 3) := by decide +kernel
theorem dX5_told_62 : decode cX5_told 62 = .ok (.iconst (-1), 1) := by decide +kernel
theorem dX5_told_63 : decode cX5_told 63 = .ok (.ireturn, 1) := by decide +kernel
theorem dX5_told_64 : decode cX5_told 64 = .ok (.aload_n 0, 1) := by decide +kernel
theorem dX5_told_65 : decode cX5_told 65 = .ok (.invokevirtual 129, 3) := by decide +kernel
theorem dX5_told_68 : decode cX5_told 68 = .ok (.ifCond .eq 21, 3) := by decide +kernel
theorem dX5_told_71 : decode cX5_told 71 = .ok (.aload_n 0, 1) := by decide +kernel
theorem dX5_told_72 : decode cX5_told 72 = .ok (.getfield 21, 3) := by decide +kernel
theorem dX5_told_75 : decode cX5_told 75 = .ok (.iload_n 1, 1) := by decide +kernel
theorem dX5_told_76 : decode cX5_told 76 = .ok (.aload_n 0, 1) := by decide +kernel
theorem dX5_told_77 : decode cX5_told 77 = .ok (.getfield 48, 3) := by decide +kernel
theorem dX5_told_80 : decode cX5_told 80 = .ok (.invokevirtual 190, 3) := by decide +kernel
theorem dX5_told_83 : decode cX5_told 83 = .ok (.invokestatic 133, 3) := by decide +kernel
theorem dX5_told_86 : decode cX5_told 86 = .ok (.goto 4, 3) := by decide +kernel
theorem dX5_told_89 : decode cX5_told 89 = .ok (.iconst (-1), 1) := by decide +kernel
theorem dX5_told_90 : decode cX5_told 90 = .ok (.ireturn, 1) := by decide +kernel
theorem dX5_told_91 : decode cX5_told 91 = .ok (.aload_n 0, 1) := by decide +kernel
theorem dX5_told_92 : decode cX5_told 92 = .ok (.getfield 21, 3) := by decide +kernel
theorem dX5_told_95 : decode cX5_told 95 = .ok (.getfield 194, 3) := by decide +kernel
theorem dX5_told_98 : decode cX5_told 98 = .ok (.iload_n 1, 1) := by decide +kernel
theorem dX5_told_99 : decode cX5_told 99 = .ok (.iaload, 1) := by decide +kernel
theorem dX5_told_100 : decode cX5_told 100 = .ok (.ireturn, 1) := by decide +kernel
theorem dX5_told_101 : decode cX5_told 101 = .ok (.iconst (-1), 1) := by decide +kernel
theorem dX5_told_102 : decode cX5_told 102 = .ok (.ireturn, 1) := by decide +kernel
set_option maxRecDepth 20000 in
theorem ggX5_cost_X5_knowSpread : GoodIn wsX5_cost wsX5_knowSpread := goodIn_r _ [8, 9, 10, 2, 11, 12, 13, 14, 15, 16, 17, 18, 19, 20, 21, 22, 23, 24, 25, 26, 27, 28, 29, 30, 31, 32, 33, 34, 35, 36, 37, 38, 39, 40, 41, 42, 43, 44, 45, 77, 78, 79, 80, 81, 82, 83, 84, 85, 86, 87, 88, 89, 90, 91, 92, 93, 94, 95, 96, 97, 98] (by decide +kernel) (by decide +kernel)
set_option maxRecDepth 20000 in
theorem gX5_cost_X5_knowSpread : GoodIn wsX5_cost (wsV RX5 129 RX5 yX5_knowSpread wsX5_knowSpread) := goodIn_app (goodIn_of _ (by decide +kernel)) ggX5_cost_X5_knowSpread
set_option maxRecDepth 20000 in
theorem ggX5_cost_X4_sum : GoodIn wsX5_cost wsX4_sum := goodIn_r _ [50, 51, 52, 53, 54, 55, 49, 56, 57, 58, 59, 60, 61, 62, 63, 64, 65, 66, 67, 68, 69, 70, 71, 72, 73, 74, 75, 76, 99, 100, 101, 102, 103, 104, 105, 106, 87, 88, 89, 90, 91, 92, 93, 94, 95, 96, 97, 98] (by decide +kernel) (by decide +kernel)
set_option maxRecDepth 20000 in
theorem gX5_cost_X4_sum : GoodIn wsX5_cost (wsV RX5 197 RX4 yX4_sum wsX4_sum) := goodIn_app (goodIn_of _ (by decide +kernel)) ggX5_cost_X4_sum
theorem dX5_cost_0 : decode cX5_cost 0 = .ok (.aload_n 0, 1) := by decide +kernel
theorem dX5_cost_1 : decode cX5_cost 1 = .ok (.invokevirtual 129, 3) := by decide +kernel
theorem dX5_cost_4 : decode cX5_cost 4 = .ok (.ifCond .eq 17, 3) := by decide +kernel
theorem dX5_cost_7 : decode cX5_cost 7 = .ok (.aload_n 0, 1) := by decide +kernel
theorem dX5_cost_8 : decode cX5_cost 8 = .ok (.getfield 21, 3) := by decide +kernel
theorem dX5_cost_11 : decode cX5_cost 11 = .ok (.aload_n 0, 1) := by decide +kernel
theorem dX5_cost_12 : decode cX5_cost 12 = .ok (.getfield 48, 3) := by decide +kernel
theorem dX5_cost_15 : decode cX5_cost 15 = .ok (.invokevirtual 197, 3) := by decide +kernel
theorem dX5_cost_18 : decode cX5_cost 18 = .ok (.goto 6, 3) := by decide +kernel
theorem dX5_cost_21 : decode cX5_cost 21 = .ok (.ldc2_w 201, 3) := by decide +kernel
theorem dX5_cost_24 : decode cX5_cost 24 = .ok (.lreturn, 1) := by decide +kernel
set_option maxRecDepth 20000 in
theorem ggX5_choose_X0_make : GoodIn wsX5_choose wsX0_make := goodIn_r _ [6, 7, 8, 9, 10, 11, 12, 13, 14, 15, 16, 17, 18, 5, 19, 20, 21, 22, 23, 24, 25, 26, 27, 28, 29, 30, 31, 32, 33, 34, 35, 36, 37, 38, 39, 40, 41, 42, 43, 44, 45, 46, 47, 48, 49, 50, 51, 52, 53, 54, 55, 56, 57, 58, 59, 60, 61, 62, 63, 64, 65, 66, 67, 68, 69, 70, 71, 72, 73, 74, 75, 76, 77, 78, 79, 80, 81, 82, 83, 84, 85, 86, 87, 88, 89, 90, 91, 92, 93, 94, 95, 96, 97, 98, 99, 100, 101, 102, 120, 121, 122, 123, 124, 125, 126, 127, 128, 129, 130, 131, 132, 133, 134, 135, 136, 137, 138, 139, 140, 141, 142, 143, 144, 145, 146, 147, 148] (by decide +kernel) (by decide +kernel)
set_option maxRecDepth 20000 in
theorem gX5_choose_X0_make : GoodIn wsX5_choose (wsV RX5 203 RX0 yX0_make wsX0_make) := goodIn_app (goodIn_of _ (by decide +kernel)) ggX5_choose_X0_make
set_option maxRecDepth 20000 in
theorem ggX5_choose_X5_forgetAnswers : GoodIn wsX5_choose wsX5_forgetAnswers := goodIn_r _ [107, 108, 109, 110, 111, 112, 113, 114, 115, 116, 117, 118, 119] (by decide +kernel) (by decide +kernel)
set_option maxRecDepth 20000 in
theorem gX5_choose_X5_forgetAnswers : GoodIn wsX5_choose (wsV RX5 73 RX5 yX5_forgetAnswers wsX5_forgetAnswers) := goodIn_app (goodIn_of _ (by decide +kernel)) ggX5_choose_X5_forgetAnswers
theorem dX5_choose_0 : decode cX5_choose 0 = .ok (.aload_n 0, 1) := by decide +kernel
theorem dX5_choose_1 : decode cX5_choose 1 = .ok (.getfield 37, 3) := by decide +kernel
theorem dX5_choose_4 : decode cX5_choose 4 = .ok (.invokevirtual 203, 3) := by decide +kernel
theorem dX5_choose_7 : decode cX5_choose 7 = .ok (.lstore_n 1, 1) := by decide +kernel
theorem dX5_choose_8 : decode cX5_choose 8 = .ok (.aload_n 0, 1) := by decide +kernel
theorem dX5_choose_9 : decode cX5_choose 9 = .ok (.invokevirtual 73, 3) := by decide +kernel
theorem dX5_choose_12 : decode cX5_choose 12 = .ok (.lload_n 1, 1) := by decide +kernel
theorem dX5_choose_13 : decode cX5_choose 13 = .ok (.lreturn, 1) := by decide +kernel
set_option maxRecDepth 20000 in
theorem ggX5_rule_X5_isIn : GoodIn wsX5_rule wsX5_isIn := goodIn_r _ [6] (by decide +kernel) (by decide +kernel)
set_option maxRecDepth 20000 in
theorem gX5_rule_X5_isIn : GoodIn wsX5_rule (va_wsS RX5 65 yX5_isIn wsX5_isIn) := goodIn_app (goodIn_of _ (by decide +kernel)) ggX5_rule_X5_isIn
set_option maxRecDepth 20000 in
theorem ggX5_rule_X3_follow : GoodIn wsX5_rule wsX3_follow := goodIn_r _ [11, 12, 13, 14, 15, 16, 17, 10, 18, 19, 20, 21, 22, 23, 24, 25, 26, 27, 28, 29, 30, 31, 32, 33, 34, 35, 36, 37, 38, 39, 40, 41, 42, 43, 44, 45, 46, 47, 48, 49, 50, 51, 52, 53, 54, 55, 56, 57, 58, 59, 60, 61, 62, 63, 64, 65, 66, 67, 68, 69, 70, 71, 72, 73, 74, 96, 97, 98, 99, 100, 101, 102, 103, 104, 105, 106, 107, 108, 109, 110, 111] (by decide +kernel) (by decide +kernel)
set_option maxRecDepth 20000 in
theorem gX5_rule_X3_follow : GoodIn wsX5_rule (wsV RX5 207 RX3 yX3_follow wsX3_follow) := goodIn_app (goodIn_of _ (by decide +kernel)) ggX5_rule_X3_follow
set_option maxRecDepth 20000 in
theorem ggX5_rule_X5_forgetAnswers : GoodIn wsX5_rule wsX5_forgetAnswers := goodIn_r _ [78, 79, 80, 86, 87, 88, 89, 90, 91, 92, 93, 94, 95] (by decide +kernel) (by decide +kernel)
set_option maxRecDepth 20000 in
theorem gX5_rule_X5_forgetAnswers : GoodIn wsX5_rule (wsV RX5 73 RX5 yX5_forgetAnswers wsX5_forgetAnswers) := goodIn_app (goodIn_of _ (by decide +kernel)) ggX5_rule_X5_forgetAnswers
set_option maxRecDepth 20000 in
theorem ggX5_rule_X1_keptChanges : GoodIn wsX5_rule wsX1_keptChanges := goodIn_r _ [84, 51, 85, 61, 100, 101, 102, 103, 104, 105, 106, 107, 108, 109, 110, 111] (by decide +kernel) (by decide +kernel)
set_option maxRecDepth 20000 in
theorem gX5_rule_X1_keptChanges : GoodIn wsX5_rule (wsV RX5 211 RX1 yX1_keptChanges wsX1_keptChanges) := goodIn_app (goodIn_of _ (by decide +kernel)) ggX5_rule_X1_keptChanges
theorem dX5_rule_0 : decode cX5_rule 0 = .ok (.iload_n 1, 1) := by decide +kernel
theorem dX5_rule_1 : decode cX5_rule 1 = .ok (.iconst 0, 1) := by decide +kernel
theorem dX5_rule_2 : decode cX5_rule 2 = .ok (.sipush 1000, 3) := by decide +kernel
theorem dX5_rule_5 : decode cX5_rule 5 = .ok (.invokestatic 65, 3) := by decide +kernel
theorem dX5_rule_8 : decode cX5_rule 8 = .ok (.ifCond .ne 5, 3) := by decide +kernel
theorem dX5_rule_11 : decode cX5_rule 11 = .ok (.iconst (-1), 1) := by decide +kernel
theorem dX5_rule_12 : decode cX5_rule 12 = .ok (.ireturn, 1) := by decide +kernel
theorem dX5_rule_13 : decode cX5_rule 13 = .ok (.aload_n 0, 1) := by decide +kernel
theorem dX5_rule_14 : decode cX5_rule 14 = .ok (.getfield 44, 3) := by decide +kernel
theorem dX5_rule_17 : decode cX5_rule 17 = .ok (.iload_n 1, 1) := by decide +kernel
theorem dX5_rule_18 : decode cX5_rule 18 = .ok (.invokevirtual 207, 3) := by decide +kernel
theorem dX5_rule_21 : decode cX5_rule 21 = .ok (.aload_n 0, 1) := by decide +kernel
theorem dX5_rule_22 : decode cX5_rule 22 = .ok (.invokevirtual 73, 3) := by decide +kernel
theorem dX5_rule_25 : decode cX5_rule 25 = .ok (.aload_n 0, 1) := by decide +kernel
theorem dX5_rule_26 : decode cX5_rule 26 = .ok (.getfield 10, 3) := by decide +kernel
theorem dX5_rule_29 : decode cX5_rule 29 = .ok (.invokevirtual 211, 3) := by decide +kernel
theorem dX5_rule_32 : decode cX5_rule 32 = .ok (.ireturn, 1) := by decide +kernel
set_option maxRecDepth 20000 in
theorem ggX5_recover_X5_knowSpread : GoodIn wsX5_recover wsX5_knowSpread := goodIn_r _ [12, 13, 1, 3, 14, 15, 16, 17, 18, 19, 20, 21, 22, 23, 24, 25, 26, 27, 28, 29, 30, 31, 32, 33, 34, 35, 36, 37, 38, 39, 40, 41, 42, 43, 44, 45, 46, 47, 48, 59, 60, 61, 62, 63, 64, 65, 66, 67, 68, 69, 70, 71, 72, 73, 74, 75, 76, 77, 78, 79, 80] (by decide +kernel) (by decide +kernel)
set_option maxRecDepth 20000 in
theorem gX5_recover_X5_knowSpread : GoodIn wsX5_recover (wsV RX5 129 RX5 yX5_knowSpread wsX5_knowSpread) := goodIn_app (goodIn_of _ (by decide +kernel)) ggX5_recover_X5_knowSpread
set_option maxRecDepth 20000 in
theorem ggX5_recover_X5_isLate : GoodIn wsX5_recover wsX5_isLate := goodIn_r _ [52, 1, 53, 3, 54, 55, 56, 57, 18, 58, 20, 59, 60, 61, 62, 63, 64, 65, 66, 67, 68, 69, 70, 71, 72, 73, 74, 75, 76, 77, 78, 79, 80] (by decide +kernel) (by decide +kernel)
set_option maxRecDepth 20000 in
theorem gX5_recover_X5_isLate : GoodIn wsX5_recover (wsV RX5 162 RX5 yX5_isLate wsX5_isLate) := goodIn_app (goodIn_of _ (by decide +kernel)) ggX5_recover_X5_isLate
theorem dX5_recover_0 : decode cX5_recover 0 = .ok (.aload_n 0, 1) := by decide +kernel
theorem dX5_recover_1 : decode cX5_recover 1 = .ok (.invokevirtual 129, 3) := by decide +kernel
theorem dX5_recover_4 : decode cX5_recover 4 = .ok (.ifCond .ne 5, 3) := by decide +kernel
theorem dX5_recover_7 : decode cX5_recover 7 = .ok (.iconst (-1), 1) := by decide +kernel
theorem dX5_recover_8 : decode cX5_recover 8 = .ok (.ireturn, 1) := by decide +kernel
theorem dX5_recover_9 : decode cX5_recover 9 = .ok (.iconst (-1), 1) := by decide +kernel
theorem dX5_recover_10 : decode cX5_recover 10 = .ok (.istore_n 1, 1) := by decide +kernel
theorem dX5_recover_11 : decode cX5_recover 11 = .ok (.iconst 0, 1) := by decide +kernel
theorem dX5_recover_12 : decode cX5_recover 12 = .ok (.istore_n 2, 1) := by decide +kernel
theorem dX5_recover_13 : decode cX5_recover 13 = .ok (.iload_n 2, 1) := by decide +kernel
theorem dX5_recover_14 : decode cX5_recover 14 = .ok (.aload_n 0, 1) := by decide +kernel
theorem dX5_recover_15 : decode cX5_recover 15 = .ok (.getfield 10, 3) := by decide +kernel
theorem dX5_recover_18 : decode cX5_recover 18 = .ok (.getfield 69, 3) := by decide +kernel
theorem dX5_recover_21 : decode cX5_recover 21 = .ok (.if_icmp .ge 28, 3) := by decide +kernel
theorem dX5_recover_24 : decode cX5_recover 24 = .ok (.aload_n 0, 1) := by decide +kernel
theorem dX5_recover_25 : decode cX5_recover 25 = .ok (.iload_n 2, 1) := by decide +kernel
theorem dX5_recover_26 : decode cX5_recover 26 = .ok (.invokevirtual 162, 3) := by decide +kernel
theorem dX5_recover_29 : decode cX5_recover 29 = .ok (.ifCond .eq 14, 3) := by decide +kernel
theorem dX5_recover_32 : decode cX5_recover 32 = .ok (.iload_n 1, 1) := by decide +kernel
theorem dX5_recover_33 : decode cX5_recover 33 = .ok (.aload_n 0, 1) := by decide +kernel
theorem dX5_recover_34 : decode cX5_recover 34 = .ok (.getfield 48, 3) := by decide +kernel
theorem dX5_recover_37 : decode cX5_recover 37 = .ok (.iload_n 2, 1) := by decide +kernel
theorem dX5_recover_38 : decode cX5_recover 38 = .ok (.iaload, 1) := by decide +kernel
theorem dX5_recover_39 : decode cX5_recover 39 = .ok (.invokestatic 215, 3) := by decide +kernel
theorem dX5_recover_42 : decode cX5_recover 42 = .ok (.istore_n 1, 1) := by decide +kernel
theorem dX5_recover_43 : decode cX5_recover 43 = .ok (.iinc 2 1, 3) := by decide +kernel
theorem dX5_recover_46 : decode cX5_recover 46 = .ok (.goto (-33), 3) := by decide +kernel
theorem dX5_recover_49 : decode cX5_recover 49 = .ok (.iload_n 1, 1) := by decide +kernel
theorem dX5_recover_50 : decode cX5_recover 50 = .ok (.ireturn, 1) := by decide +kernel
set_option maxRecDepth 20000 in
theorem ggX5_count_X1_keptChanges : GoodIn wsX5_count wsX1_keptChanges := goodIn_r _ [10, 11, 12, 13, 94, 95, 96, 97, 98, 99, 100, 101, 102, 103, 104, 105] (by decide +kernel) (by decide +kernel)
set_option maxRecDepth 20000 in
theorem gX5_count_X1_keptChanges : GoodIn wsX5_count (wsV RX5 211 RX1 yX1_keptChanges wsX1_keptChanges) := goodIn_app (goodIn_of _ (by decide +kernel)) ggX5_count_X1_keptChanges
set_option maxRecDepth 20000 in
theorem ggX5_count_X5_knowSpread : GoodIn wsX5_count wsX5_knowSpread := goodIn_r _ [18, 19, 1, 20, 21, 22, 23, 24, 9, 25, 26, 27, 28, 29, 30, 31, 32, 33, 34, 35, 36, 11, 37, 38, 39, 40, 41, 42, 43, 44, 45, 46, 47, 13, 48, 49, 50, 51, 52, 84, 85, 86, 87, 88, 89, 90, 91, 92, 93, 94, 95, 96, 97, 98, 99, 100, 101, 102, 103, 104, 105] (by decide +kernel) (by decide +kernel)
set_option maxRecDepth 20000 in
theorem gX5_count_X5_knowSpread : GoodIn wsX5_count (wsV RX5 129 RX5 yX5_knowSpread wsX5_knowSpread) := goodIn_app (goodIn_of _ (by decide +kernel)) ggX5_count_X5_knowSpread
set_option maxRecDepth 20000 in
theorem ggX5_count_X5_lateEvents : GoodIn wsX5_count wsX5_lateEvents := goodIn_r _ [56, 1, 2, 57, 58, 59, 17, 60, 61, 20, 62, 63, 64, 65, 9, 66, 26, 84, 85, 86, 87, 88, 89, 90, 91, 92, 93, 94, 95, 96, 97, 98, 99, 100, 101, 102, 103, 104, 105] (by decide +kernel) (by decide +kernel)
set_option maxRecDepth 20000 in
theorem gX5_count_X5_lateEvents : GoodIn wsX5_count (wsV RX5 220 RX5 yX5_lateEvents wsX5_lateEvents) := goodIn_app (goodIn_of _ (by decide +kernel)) ggX5_count_X5_lateEvents
set_option maxRecDepth 20000 in
theorem ggX5_count_X5_lateMinutes : GoodIn wsX5_count wsX5_lateMinutes := goodIn_r _ [70, 1, 2, 20, 62, 57, 58, 59, 17, 60, 61, 63, 64, 65, 9, 66, 26, 84, 85, 86, 87, 88, 89, 90, 91, 92, 93, 94, 95, 96, 97, 98, 99, 100, 101, 102, 103, 104, 105] (by decide +kernel) (by decide +kernel)
set_option maxRecDepth 20000 in
theorem gX5_count_X5_lateMinutes : GoodIn wsX5_count (wsV RX5 223 RX5 yX5_lateMinutes wsX5_lateMinutes) := goodIn_app (goodIn_of _ (by decide +kernel)) ggX5_count_X5_lateMinutes
set_option maxRecDepth 20000 in
theorem ggX5_count_X1_cancelledTrains : GoodIn wsX5_count wsX1_cancelledTrains := goodIn_r _ [74, 75, 94, 95, 96, 97, 98, 99, 100, 101, 102, 103, 104, 105] (by decide +kernel) (by decide +kernel)
set_option maxRecDepth 20000 in
theorem gX5_count_X1_cancelledTrains : GoodIn wsX5_count (wsV RX5 226 RX1 yX1_cancelledTrains wsX1_cancelledTrains) := goodIn_app (goodIn_of _ (by decide +kernel)) ggX5_count_X1_cancelledTrains
set_option maxRecDepth 20000 in
theorem ggX5_count_X1_tightActivities : GoodIn wsX5_count wsX1_tightActivities := goodIn_r _ [79, 11, 80, 81, 82, 9, 83, 27, 37, 38, 39, 94, 95, 96, 97, 98, 99, 100, 101, 102, 103, 104, 105] (by decide +kernel) (by decide +kernel)
set_option maxRecDepth 20000 in
theorem gX5_count_X1_tightActivities : GoodIn wsX5_count (wsV RX5 229 RX1 yX1_tightActivities wsX1_tightActivities) := goodIn_app (goodIn_of _ (by decide +kernel)) ggX5_count_X1_tightActivities
theorem dX5_count_0 : decode cX5_count 0 = .ok (.iload_n 1, 1) := by decide +kernel
theorem dX5_count_1 : decode cX5_count 1 = .ok (.tableswitch 127 0 7 #[47, 55, 63, 71, 79, 95, 111, 119], 47) := by decide +kernel
theorem dX5_count_48 : decode cX5_count 48 = .ok (.aload_n 0, 1) := by decide +kernel
theorem dX5_count_49 : decode cX5_count 49 = .ok (.getfield 10, 3) := by decide +kernel
theorem dX5_count_52 : decode cX5_count 52 = .ok (.getfield 69, 3) := by decide +kernel
theorem dX5_count_55 : decode cX5_count 55 = .ok (.ireturn, 1) := by decide +kernel
theorem dX5_count_56 : decode cX5_count 56 = .ok (.aload_n 0, 1) := by decide +kernel
theorem dX5_count_57 : decode cX5_count 57 = .ok (.getfield 10, 3) := by decide +kernel
theorem dX5_count_60 : decode cX5_count 60 = .ok (.getfield 80, 3) := by decide +kernel
theorem dX5_count_63 : decode cX5_count 63 = .ok (.ireturn, 1) := by decide +kernel
theorem dX5_count_64 : decode cX5_count 64 = .ok (.aload_n 0, 1) := by decide +kernel
theorem dX5_count_65 : decode cX5_count 65 = .ok (.getfield 21, 3) := by decide +kernel
theorem dX5_count_68 : decode cX5_count 68 = .ok (.getfield 118, 3) := by decide +kernel
theorem dX5_count_71 : decode cX5_count 71 = .ok (.ireturn, 1) := by decide +kernel
theorem dX5_count_72 : decode cX5_count 72 = .ok (.aload_n 0, 1) := by decide +kernel
theorem dX5_count_73 : decode cX5_count 73 = .ok (.getfield 10, 3) := by decide +kernel
theorem dX5_count_76 : decode cX5_count 76 = .ok (.invokevirtual 211, 3) := by decide +kernel
theorem dX5_count_79 : decode cX5_count 79 = .ok (.ireturn, 1) := by decide +kernel
theorem dX5_count_80 : decode cX5_count 80 = .ok (.aload_n 0, 1) := by decide +kernel
theorem dX5_count_81 : decode cX5_count 81 = .ok (.invokevirtual 129, 3) := by decide +kernel
theorem dX5_count_84 : decode cX5_count 84 = .ok (.ifCond .eq 10, 3) := by decide +kernel
theorem dX5_count_87 : decode cX5_count 87 = .ok (.aload_n 0, 1) := by decide +kernel
theorem dX5_count_88 : decode cX5_count 88 = .ok (.invokevirtual 220, 3) := by decide +kernel
theorem dX5_count_91 : decode cX5_count 91 = .ok (.goto 4, 3) := by decide +kernel
theorem dX5_count_94 : decode cX5_count 94 = .ok (.iconst 0, 1) := by decide +kernel
theorem dX5_count_95 : decode cX5_count 95 = .ok (.ireturn, 1) := by decide +kernel
theorem dX5_count_96 : decode cX5_count 96 = .ok (.aload_n 0, 1) := by decide +kernel
theorem dX5_count_97 : decode cX5_count 97 = .ok (.invokevirtual 129, 3) := by decide +kernel
theorem dX5_count_100 : decode cX5_count 100 = .ok (.ifCond .eq 10, 3) := by decide +kernel
theorem dX5_count_103 : decode cX5_count 103 = .ok (.aload_n 0, 1) := by decide +kernel
theorem dX5_count_104 : decode cX5_count 104 = .ok (.invokevirtual 223, 3) := by decide +kernel
theorem dX5_count_107 : decode cX5_count 107 = .ok (.goto 4, 3) := by decide +kernel
theorem dX5_count_110 : decode cX5_count 110 = .ok (.iconst 0, 1) := by decide +kernel
theorem dX5_count_111 : decode cX5_count 111 = .ok (.ireturn, 1) := by decide +kernel
theorem dX5_count_112 : decode cX5_count 112 = .ok (.aload_n 0, 1) := by decide +kernel
theorem dX5_count_113 : decode cX5_count 113 = .ok (.getfield 10, 3) := by decide +kernel
theorem dX5_count_116 : decode cX5_count 116 = .ok (.invokevirtual 226, 3) := by decide +kernel
theorem dX5_count_119 : decode cX5_count 119 = .ok (.ireturn, 1) := by decide +kernel
theorem dX5_count_120 : decode cX5_count 120 = .ok (.aload_n 0, 1) := by decide +kernel
theorem dX5_count_121 : decode cX5_count 121 = .ok (.getfield 10, 3) := by decide +kernel
theorem dX5_count_124 : decode cX5_count 124 = .ok (.invokevirtual 229, 3) := by decide +kernel
theorem dX5_count_127 : decode cX5_count 127 = .ok (.ireturn, 1) := by decide +kernel
theorem dX5_count_128 : decode cX5_count 128 = .ok (.iconst (-1), 1) := by decide +kernel
theorem dX5_count_129 : decode cX5_count 129 = .ok (.ireturn, 1) := by decide +kernel
theorem dX5_isIn_0 : decode cX5_isIn 0 = .ok (.iload_n 0, 1) := by decide +kernel
theorem dX5_isIn_1 : decode cX5_isIn 1 = .ok (.iload_n 1, 1) := by decide +kernel
theorem dX5_isIn_2 : decode cX5_isIn 2 = .ok (.if_icmp .lt 12, 3) := by decide +kernel
theorem dX5_isIn_5 : decode cX5_isIn 5 = .ok (.iload_n 0, 1) := by decide +kernel
theorem dX5_isIn_6 : decode cX5_isIn 6 = .ok (.iload_n 2, 1) := by decide +kernel
theorem dX5_isIn_7 : decode cX5_isIn 7 = .ok (.if_icmp .gt 7, 3) := by decide +kernel
theorem dX5_isIn_10 : decode cX5_isIn 10 = .ok (.iconst 1, 1) := by decide +kernel
theorem dX5_isIn_11 : decode cX5_isIn 11 = .ok (.goto 4, 3) := by decide +kernel
theorem dX5_isIn_14 : decode cX5_isIn 14 = .ok (.iconst 0, 1) := by decide +kernel
theorem dX5_isIn_15 : decode cX5_isIn 15 = .ok (.ireturn, 1) := by decide +kernel
theorem dX5_asNumber_0 : decode cX5_asNumber 0 = .ok (.iload_n 0, 1) := by decide +kernel
theorem dX5_asNumber_1 : decode cX5_asNumber 1 = .ok (.ifCond .eq 7, 3) := by decide +kernel
theorem dX5_asNumber_4 : decode cX5_asNumber 4 = .ok (.iconst 1, 1) := by decide +kernel
theorem dX5_asNumber_5 : decode cX5_asNumber 5 = .ok (.goto 4, 3) := by decide +kernel
theorem dX5_asNumber_8 : decode cX5_asNumber 8 = .ok (.iconst 0, 1) := by decide +kernel
theorem dX5_asNumber_9 : decode cX5_asNumber 9 = .ok (.ireturn, 1) := by decide +kernel
theorem dX5_forgetAnswers_0 : decode cX5_forgetAnswers 0 = .ok (.aload_n 0, 1) := by decide +kernel
theorem dX5_forgetAnswers_1 : decode cX5_forgetAnswers 1 = .ok (.iconst 0, 1) := by decide +kernel
theorem dX5_forgetAnswers_2 : decode cX5_forgetAnswers 2 = .ok (.putfield 55, 3) := by decide +kernel
theorem dX5_forgetAnswers_5 : decode cX5_forgetAnswers 5 = .ok (.aload_n 0, 1) := by decide +kernel
theorem dX5_forgetAnswers_6 : decode cX5_forgetAnswers 6 = .ok (.iconst 0, 1) := by decide +kernel
theorem dX5_forgetAnswers_7 : decode cX5_forgetAnswers 7 = .ok (.putfield 62, 3) := by decide +kernel
theorem dX5_forgetAnswers_10 : decode cX5_forgetAnswers 10 = .ok (.return_, 1) := by decide +kernel
set_option maxRecDepth 20000 in
theorem ggX5_knowSpread_X1_putEarliest : GoodIn wsX5_knowSpread wsX1_putEarliest := goodIn_r _ [9, 10, 11, 12, 49, 50, 51, 52, 53, 54, 55, 56, 57, 58, 59, 60] (by decide +kernel) (by decide +kernel)
set_option maxRecDepth 20000 in
theorem gX5_knowSpread_X1_putEarliest : GoodIn wsX5_knowSpread (wsV RX5 232 RX1 yX1_putEarliest wsX1_putEarliest) := goodIn_app (goodIn_of _ (by decide +kernel)) ggX5_knowSpread_X1_putEarliest
set_option maxRecDepth 20000 in
theorem ggX5_knowSpread_X1_settle : GoodIn wsX5_knowSpread wsX1_settle := goodIn_r _ [16, 10, 17, 18, 19, 8, 20, 21, 22, 23, 24, 25, 26, 27, 28, 29, 30, 31, 32, 33, 34, 35, 36, 37, 38, 49, 50, 51, 52, 53, 54, 55, 56, 57, 58, 59, 60] (by decide +kernel) (by decide +kernel)
set_option maxRecDepth 20000 in
theorem gX5_knowSpread_X1_settle : GoodIn wsX5_knowSpread (wsV RX5 236 RX1 yX1_settle wsX1_settle) := goodIn_app (goodIn_of _ (by decide +kernel)) ggX5_knowSpread_X1_settle
theorem dX5_knowSpread_0 : decode cX5_knowSpread 0 = .ok (.aload_n 0, 1) := by decide +kernel
theorem dX5_knowSpread_1 : decode cX5_knowSpread 1 = .ok (.getfield 55, 3) := by decide +kernel
theorem dX5_knowSpread_4 : decode cX5_knowSpread 4 = .ok (.ifCond .ne 34, 3) := by decide +kernel
theorem dX5_knowSpread_7 : decode cX5_knowSpread 7 = .ok (.aload_n 0, 1) := by decide +kernel
theorem dX5_knowSpread_8 : decode cX5_knowSpread 8 = .ok (.getfield 10, 3) := by decide +kernel
theorem dX5_knowSpread_11 : decode cX5_knowSpread 11 = .ok (.aload_n 0, 1) := by decide +kernel
theorem dX5_knowSpread_12 : decode cX5_knowSpread 12 = .ok (.getfield 48, 3) := by decide +kernel
theorem dX5_knowSpread_15 : decode cX5_knowSpread 15 = .ok (.invokevirtual 232, 3) := by decide +kernel
theorem dX5_knowSpread_18 : decode cX5_knowSpread 18 = .ok (.aload_n 0, 1) := by decide +kernel
theorem dX5_knowSpread_19 : decode cX5_knowSpread 19 = .ok (.aload_n 0, 1) := by decide +kernel
theorem dX5_knowSpread_20 : decode cX5_knowSpread 20 = .ok (.getfield 10, 3) := by decide +kernel
theorem dX5_knowSpread_23 : decode cX5_knowSpread 23 = .ok (.aload_n 0, 1) := by decide +kernel
theorem dX5_knowSpread_24 : decode cX5_knowSpread 24 = .ok (.getfield 48, 3) := by decide +kernel
theorem dX5_knowSpread_27 : decode cX5_knowSpread 27 = .ok (.invokevirtual 236, 3) := by decide +kernel
theorem dX5_knowSpread_30 : decode cX5_knowSpread 30 = .ok (.putfield 59, 3) := by decide +kernel
theorem dX5_knowSpread_33 : decode cX5_knowSpread 33 = .ok (.aload_n 0, 1) := by decide +kernel
theorem dX5_knowSpread_34 : decode cX5_knowSpread 34 = .ok (.iconst 1, 1) := by decide +kernel
theorem dX5_knowSpread_35 : decode cX5_knowSpread 35 = .ok (.putfield 55, 3) := by decide +kernel
theorem dX5_knowSpread_38 : decode cX5_knowSpread 38 = .ok (.aload_n 0, 1) := by decide +kernel
theorem dX5_knowSpread_39 : decode cX5_knowSpread 39 = .ok (.getfield 59, 3) := by decide +kernel
theorem dX5_knowSpread_42 : decode cX5_knowSpread 42 = .ok (.ireturn, 1) := by decide +kernel
set_option maxRecDepth 20000 in
theorem ggX5_isLate_X1_hasEvent : GoodIn wsX5_isLate wsX1_hasEvent := goodIn_r _ [9, 10, 21, 22, 23, 24, 25, 26, 27, 28, 29, 30, 31, 32] (by decide +kernel) (by decide +kernel)
set_option maxRecDepth 20000 in
theorem gX5_isLate_X1_hasEvent : GoodIn wsX5_isLate (wsV RX5 90 RX1 yX1_hasEvent wsX1_hasEvent) := goodIn_app (goodIn_of _ (by decide +kernel)) ggX5_isLate_X1_hasEvent
theorem dX5_isLate_0 : decode cX5_isLate 0 = .ok (.aload_n 0, 1) := by decide +kernel
theorem dX5_isLate_1 : decode cX5_isLate 1 = .ok (.getfield 10, 3) := by decide +kernel
theorem dX5_isLate_4 : decode cX5_isLate 4 = .ok (.iload_n 1, 1) := by decide +kernel
theorem dX5_isLate_5 : decode cX5_isLate 5 = .ok (.invokevirtual 90, 3) := by decide +kernel
theorem dX5_isLate_8 : decode cX5_isLate 8 = .ok (.ifCond .eq 37, 3) := by decide +kernel
theorem dX5_isLate_11 : decode cX5_isLate 11 = .ok (.aload_n 0, 1) := by decide +kernel
theorem dX5_isLate_12 : decode cX5_isLate 12 = .ok (.getfield 10, 3) := by decide +kernel
theorem dX5_isLate_15 : decode cX5_isLate 15 = .ok (.getfield 137, 3) := by decide +kernel
theorem dX5_isLate_18 : decode cX5_isLate 18 = .ok (.iload_n 1, 1) := by decide +kernel
theorem dX5_isLate_19 : decode cX5_isLate 19 = .ok (.baload, 1) := by decide +kernel
theorem dX5_isLate_20 : decode cX5_isLate 20 = .ok (.ifCond .eq 25, 3) := by decide +kernel
theorem dX5_isLate_23 : decode cX5_isLate 23 = .ok (.aload_n 0, 1) := by decide +kernel
theorem dX5_isLate_24 : decode cX5_isLate 24 = .ok (.getfield 48, 3) := by decide +kernel
theorem dX5_isLate_27 : decode cX5_isLate 27 = .ok (.iload_n 1, 1) := by decide +kernel
theorem dX5_isLate_28 : decode cX5_isLate 28 = .ok (.iaload, 1) := by decide +kernel
