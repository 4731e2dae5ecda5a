theorem dX5_isLate_29 : decode cX5_isLate 29 = .ok (.aload_n 0, 1) := by decide +kernel
theorem dX5_isLate_30 : decode cX5_isLate 30 = .ok (.getfield 10, 3) := by decide +kernel
theorem dX5_isLate_33 : decode cX5_isLate 33 = .ok (.getfield 140, 3) := by decide +kernel
theorem dX5_isLate_36 : decode cX5_isLate 36 = .ok (.iload_n 1, 1) := by decide +kernel
theorem dX5_isLate_37 : decode cX5_isLate 37 = .ok (.iaload, 1) := by decide +kernel
theorem dX5_isLate_38 : decode cX5_isLate 38 = .ok (.if_icmp .le 7, 3) := by decide +kernel
theorem dX5_isLate_41 : decode cX5_isLate 41 = .ok (.iconst 1, 1) := by decide +kernel
theorem dX5_isLate_42 : decode cX5_isLate 42 = .ok (.goto 4, 3) := by decide +kernel
theorem dX5_isLate_45 : decode cX5_isLate 45 = .ok (.iconst 0, 1) := by decide +kernel
theorem dX5_isLate_46 : decode cX5_isLate 46 = .ok (.ireturn, 1) := by decide +kernel
set_option maxRecDepth 20000 in
theorem ggX5_binds_X1_joinsThere : GoodIn wsX5_binds wsX1_joinsThere := goodIn_r _ [12, 13, 14, 15, 26, 27, 28, 29, 30, 31, 32, 33, 34, 35, 36, 37] (by decide +kernel) (by decide +kernel)
set_option maxRecDepth 20000 in
theorem gX5_binds_X1_joinsThere : GoodIn wsX5_binds (wsV RX5 240 RX1 yX1_joinsThere wsX1_joinsThere) := goodIn_app (goodIn_of _ (by decide +kernel)) ggX5_binds_X1_joinsThere
theorem dX5_binds_0 : decode cX5_binds 0 = .ok (.aload_n 0, 1) := by decide +kernel
theorem dX5_binds_1 : decode cX5_binds 1 = .ok (.getfield 10, 3) := by decide +kernel
theorem dX5_binds_4 : decode cX5_binds 4 = .ok (.getfield 108, 3) := by decide +kernel
theorem dX5_binds_7 : decode cX5_binds 7 = .ok (.iload_n 1, 1) := by decide +kernel
theorem dX5_binds_8 : decode cX5_binds 8 = .ok (.iaload, 1) := by decide +kernel
theorem dX5_binds_9 : decode cX5_binds 9 = .ok (.istore_n 2, 1) := by decide +kernel
theorem dX5_binds_10 : decode cX5_binds 10 = .ok (.aload_n 0, 1) := by decide +kernel
theorem dX5_binds_11 : decode cX5_binds 11 = .ok (.getfield 10, 3) := by decide +kernel
theorem dX5_binds_14 : decode cX5_binds 14 = .ok (.iload_n 1, 1) := by decide +kernel
theorem dX5_binds_15 : decode cX5_binds 15 = .ok (.invokevirtual 240, 3) := by decide +kernel
theorem dX5_binds_18 : decode cX5_binds 18 = .ok (.ifCond .eq 68, 3) := by decide +kernel
theorem dX5_binds_21 : decode cX5_binds 21 = .ok (.aload_n 0, 1) := by decide +kernel
theorem dX5_binds_22 : decode cX5_binds 22 = .ok (.getfield 48, 3) := by decide +kernel
theorem dX5_binds_25 : decode cX5_binds 25 = .ok (.iload_n 2, 1) := by decide +kernel
theorem dX5_binds_26 : decode cX5_binds 26 = .ok (.iaload, 1) := by decide +kernel
theorem dX5_binds_27 : decode cX5_binds 27 = .ok (.aload_n 0, 1) := by decide +kernel
theorem dX5_binds_28 : decode cX5_binds 28 = .ok (.getfield 48, 3) := by decide +kernel
theorem dX5_binds_31 : decode cX5_binds 31 = .ok (.aload_n 0, 1) := by decide +kernel
theorem dX5_binds_32 : decode cX5_binds 32 = .ok (.getfield 10, 3) := by decide +kernel
theorem dX5_binds_35 : decode cX5_binds 35 = .ok (.getfield 105, 3) := by decide +kernel
theorem dX5_binds_38 : decode cX5_binds 38 = .ok (.iload_n 1, 1) := by decide +kernel
theorem dX5_binds_39 : decode cX5_binds 39 = .ok (.iaload, 1) := by decide +kernel
theorem dX5_binds_40 : decode cX5_binds 40 = .ok (.iaload, 1) := by decide +kernel
theorem dX5_binds_41 : decode cX5_binds 41 = .ok (.aload_n 0, 1) := by decide +kernel
theorem dX5_binds_42 : decode cX5_binds 42 = .ok (.getfield 10, 3) := by decide +kernel
theorem dX5_binds_45 : decode cX5_binds 45 = .ok (.getfield 152, 3) := by decide +kernel
theorem dX5_binds_48 : decode cX5_binds 48 = .ok (.iload_n 1, 1) := by decide +kernel
theorem dX5_binds_49 : decode cX5_binds 49 = .ok (.iaload, 1) := by decide +kernel
theorem dX5_binds_50 : decode cX5_binds 50 = .ok (.iadd, 1) := by decide +kernel
theorem dX5_binds_51 : decode cX5_binds 51 = .ok (.if_icmp .ne 35, 3) := by decide +kernel
theorem dX5_binds_54 : decode cX5_binds 54 = .ok (.aload_n 0, 1) := by decide +kernel
theorem dX5_binds_55 : decode cX5_binds 55 = .ok (.getfield 48, 3) := by decide +kernel
theorem dX5_binds_58 : decode cX5_binds 58 = .ok (.iload_n 2, 1) := by decide +kernel
theorem dX5_binds_59 : decode cX5_binds 59 = .ok (.iaload, 1) := by decide +kernel
theorem dX5_binds_60 : decode cX5_binds 60 = .ok (.aload_n 0, 1) := by decide +kernel
theorem dX5_binds_61 : decode cX5_binds 61 = .ok (.getfield 10, 3) := by decide +kernel
theorem dX5_binds_64 : decode cX5_binds 64 = .ok (.getfield 140, 3) := by decide +kernel
theorem dX5_binds_67 : decode cX5_binds 67 = .ok (.iload_n 2, 1) := by decide +kernel
theorem dX5_binds_68 : decode cX5_binds 68 = .ok (.iaload, 1) := by decide +kernel
theorem dX5_binds_69 : decode cX5_binds 69 = .ok (.isub, 1) := by decide +kernel
theorem dX5_binds_70 : decode cX5_binds 70 = .ok (.aload_n 0, 1) := by decide +kernel
theorem dX5_binds_71 : decode cX5_binds 71 = .ok (.getfield 10, 3) := by decide +kernel
theorem dX5_binds_74 : decode cX5_binds 74 = .ok (.getfield 94, 3) := by decide +kernel
theorem dX5_binds_77 : decode cX5_binds 77 = .ok (.iload_n 2, 1) := by decide +kernel
theorem dX5_binds_78 : decode cX5_binds 78 = .ok (.iaload, 1) := by decide +kernel
theorem dX5_binds_79 : decode cX5_binds 79 = .ok (.if_icmp .le 7, 3) := by decide +kernel
theorem dX5_binds_82 : decode cX5_binds 82 = .ok (.iconst 1, 1) := by decide +kernel
theorem dX5_binds_83 : decode cX5_binds 83 = .ok (.goto 4, 3) := by decide +kernel
theorem dX5_binds_86 : decode cX5_binds 86 = .ok (.iconst 0, 1) := by decide +kernel
theorem dX5_binds_87 : decode cX5_binds 87 = .ok (.ireturn, 1) := by decide +kernel
set_option maxRecDepth 20000 in
theorem ggX5_causeOfLate_X5_binds : GoodIn wsX5_causeOfLate wsX5_binds := goodIn_r _ [9, 1, 3, 10, 4, 11, 12, 13, 14, 15, 16, 17, 18, 19, 20, 21, 32, 33, 34, 35, 36, 37, 38, 39, 40, 41, 42, 43, 44, 45, 46, 47, 48, 49, 50, 51, 52, 53] (by decide +kernel) (by decide +kernel)
set_option maxRecDepth 20000 in
theorem gX5_causeOfLate_X5_binds : GoodIn wsX5_causeOfLate (wsV RX5 155 RX5 yX5_binds wsX5_binds) := goodIn_app (goodIn_of _ (by decide +kernel)) ggX5_causeOfLate_X5_binds
set_option maxRecDepth 20000 in
theorem ggX5_causeOfLate_X5_isLate : GoodIn wsX5_causeOfLate wsX5_isLate := goodIn_r _ [25, 1, 26, 10, 12, 27, 28, 29, 17, 30, 31, 32, 33, 34, 35, 36, 37, 38, 39, 40, 41, 42, 43, 44, 45, 46, 47, 48, 49, 50, 51, 52, 53] (by decide +kernel) (by decide +kernel)
set_option maxRecDepth 20000 in
theorem gX5_causeOfLate_X5_isLate : GoodIn wsX5_causeOfLate (wsV RX5 162 RX5 yX5_isLate wsX5_isLate) := goodIn_app (goodIn_of _ (by decide +kernel)) ggX5_causeOfLate_X5_isLate
theorem dX5_causeOfLate_0 : decode cX5_causeOfLate 0 = .ok (.iconst 0, 1) := by decide +kernel
theorem dX5_causeOfLate_1 : decode cX5_causeOfLate 1 = .ok (.istore_n 2, 1) := by decide +kernel
theorem dX5_causeOfLate_2 : decode cX5_causeOfLate 2 = .ok (.iload_n 2, 1) := by decide +kernel
theorem dX5_causeOfLate_3 : decode cX5_causeOfLate 3 = .ok (.aload_n 0, 1) := by decide +kernel
theorem dX5_causeOfLate_4 : decode cX5_causeOfLate 4 = .ok (.getfield 10, 3) := by decide +kernel
theorem dX5_causeOfLate_7 : decode cX5_causeOfLate 7 = .ok (.getfield 80, 3) := by decide +kernel
theorem dX5_causeOfLate_10 : decode cX5_causeOfLate 10 = .ok (.if_icmp .ge 48, 3) := by decide +kernel
theorem dX5_causeOfLate_13 : decode cX5_causeOfLate 13 = .ok (.aload_n 0, 1) := by decide +kernel
theorem dX5_causeOfLate_14 : decode cX5_causeOfLate 14 = .ok (.getfield 10, 3) := by decide +kernel
theorem dX5_causeOfLate_17 : decode cX5_causeOfLate 17 = .ok (.getfield 108, 3) := by decide +kernel
theorem dX5_causeOfLate_20 : decode cX5_causeOfLate 20 = .ok (.iload_n 2, 1) := by decide +kernel
theorem dX5_causeOfLate_21 : decode cX5_causeOfLate 21 = .ok (.iaload, 1) := by decide +kernel
theorem dX5_causeOfLate_22 : decode cX5_causeOfLate 22 = .ok (.iload_n 1, 1) := by decide +kernel
theorem dX5_causeOfLate_23 : decode cX5_causeOfLate 23 = .ok (.if_icmp .ne 29, 3) := by decide +kernel
theorem dX5_causeOfLate_26 : decode cX5_causeOfLate 26 = .ok (.aload_n 0, 1) := by decide +kernel
theorem dX5_causeOfLate_27 : decode cX5_causeOfLate 27 = .ok (.iload_n 2, 1) := by decide +kernel
theorem dX5_causeOfLate_28 : decode cX5_causeOfLate 28 = .ok (.invokevirtual 155, 3) := by decide +kernel
theorem dX5_causeOfLate_31 : decode cX5_causeOfLate 31 = .ok (.ifCond .eq 21, 3) := by decide +kernel
theorem dX5_causeOfLate_34 : decode cX5_causeOfLate 34 = .ok (.aload_n 0, 1) := by decide +kernel
theorem dX5_causeOfLate_35 : decode cX5_causeOfLate 35 = .ok (.aload_n 0, 1) := by decide +kernel
theorem dX5_causeOfLate_36 : decode cX5_causeOfLate 36 = .ok (.getfield 10, 3) := by decide +kernel
theorem dX5_causeOfLate_39 : decode cX5_causeOfLate 39 = .ok (.getfield 105, 3) := by decide +kernel
theorem dX5_causeOfLate_42 : decode cX5_causeOfLate 42 = .ok (.iload_n 2, 1) := by decide +kernel
theorem dX5_causeOfLate_43 : decode cX5_causeOfLate 43 = .ok (.iaload, 1) := by decide +kernel
theorem dX5_causeOfLate_44 : decode cX5_causeOfLate 44 = .ok (.invokevirtual 162, 3) := by decide +kernel
theorem dX5_causeOfLate_47 : decode cX5_causeOfLate 47 = .ok (.ifCond .eq 5, 3) := by decide +kernel
theorem dX5_causeOfLate_50 : decode cX5_causeOfLate 50 = .ok (.iload_n 2, 1) := by decide +kernel
theorem dX5_causeOfLate_51 : decode cX5_causeOfLate 51 = .ok (.ireturn, 1) := by decide +kernel
theorem dX5_causeOfLate_52 : decode cX5_causeOfLate 52 = .ok (.iinc 2 1, 3) := by decide +kernel
theorem dX5_causeOfLate_55 : decode cX5_causeOfLate 55 = .ok (.goto (-53), 3) := by decide +kernel
theorem dX5_causeOfLate_58 : decode cX5_causeOfLate 58 = .ok (.iconst (-1), 1) := by decide +kernel
theorem dX5_causeOfLate_59 : decode cX5_causeOfLate 59 = .ok (.ireturn, 1) := by decide +kernel
set_option maxRecDepth 20000 in
theorem ggX5_lateEvents_X5_isLate : GoodIn wsX5_lateEvents wsX5_isLate := goodIn_r _ [7, 1, 8, 9, 10, 11, 12, 13, 14, 15, 16, 17, 18, 19, 20, 21, 22, 23, 24, 25, 26, 27, 28, 29, 30, 31, 32, 33, 34, 35, 36, 37, 38] (by decide +kernel) (by decide +kernel)
set_option maxRecDepth 20000 in
theorem gX5_lateEvents_X5_isLate : GoodIn wsX5_lateEvents (wsV RX5 162 RX5 yX5_isLate wsX5_isLate) := goodIn_app (goodIn_of _ (by decide +kernel)) ggX5_lateEvents_X5_isLate
theorem dX5_lateEvents_0 : decode cX5_lateEvents 0 = .ok (.iconst 0, 1) := by decide +kernel
theorem dX5_lateEvents_1 : decode cX5_lateEvents 1 = .ok (.istore_n 1, 1) := by decide +kernel
theorem dX5_lateEvents_2 : decode cX5_lateEvents 2 = .ok (.iconst 0, 1) := by decide +kernel
theorem dX5_lateEvents_3 : decode cX5_lateEvents 3 = .ok (.istore_n 2, 1) := by decide +kernel
theorem dX5_lateEvents_4 : decode cX5_lateEvents 4 = .ok (.iload_n 2, 1) := by decide +kernel
theorem dX5_lateEvents_5 : decode cX5_lateEvents 5 = .ok (.aload_n 0, 1) := by decide +kernel
theorem dX5_lateEvents_6 : decode cX5_lateEvents 6 = .ok (.getfield 10, 3) := by decide +kernel
theorem dX5_lateEvents_9 : decode cX5_lateEvents 9 = .ok (.getfield 69, 3) := by decide +kernel
theorem dX5_lateEvents_12 : decode cX5_lateEvents 12 = .ok (.if_icmp .ge 20, 3) := by decide +kernel
theorem dX5_lateEvents_15 : decode cX5_lateEvents 15 = .ok (.aload_n 0, 1) := by decide +kernel
theorem dX5_lateEvents_16 : decode cX5_lateEvents 16 = .ok (.iload_n 2, 1) := by decide +kernel
theorem dX5_lateEvents_17 : decode cX5_lateEvents 17 = .ok (.invokevirtual 162, 3) := by decide +kernel
theorem dX5_lateEvents_20 : decode cX5_lateEvents 20 = .ok (.ifCond .eq 6, 3) := by decide +kernel
theorem dX5_lateEvents_23 : decode cX5_lateEvents 23 = .ok (.iinc 1 1, 3) := by decide +kernel
theorem dX5_lateEvents_26 : decode cX5_lateEvents 26 = .ok (.iinc 2 1, 3) := by decide +kernel
theorem dX5_lateEvents_29 : decode cX5_lateEvents 29 = .ok (.goto (-25), 3) := by decide +kernel
theorem dX5_lateEvents_32 : decode cX5_lateEvents 32 = .ok (.iload_n 1, 1) := by decide +kernel
theorem dX5_lateEvents_33 : decode cX5_lateEvents 33 = .ok (.ireturn, 1) := by decide +kernel
set_option maxRecDepth 20000 in
theorem ggX5_lateMinutes_X5_isLate : GoodIn wsX5_lateMinutes wsX5_isLate := goodIn_r _ [9, 1, 10, 3, 4, 11, 12, 13, 14, 15, 16, 17, 18, 19, 20, 21, 22, 23, 24, 25, 26, 27, 28, 29, 30, 31, 32, 33, 34, 35, 36, 37, 38] (by decide +kernel) (by decide +kernel)
set_option maxRecDepth 20000 in
theorem gX5_lateMinutes_X5_isLate : GoodIn wsX5_lateMinutes (wsV RX5 162 RX5 yX5_isLate wsX5_isLate) := goodIn_app (goodIn_of _ (by decide +kernel)) ggX5_lateMinutes_X5_isLate
theorem dX5_lateMinutes_0 : decode cX5_lateMinutes 0 = .ok (.iconst 0, 1) := by decide +kernel
theorem dX5_lateMinutes_1 : decode cX5_lateMinutes 1 = .ok (.istore_n 1, 1) := by decide +kernel
theorem dX5_lateMinutes_2 : decode cX5_lateMinutes 2 = .ok (.iconst 0, 1) := by decide +kernel
theorem dX5_lateMinutes_3 : decode cX5_lateMinutes 3 = .ok (.istore_n 2, 1) := by decide +kernel
theorem dX5_lateMinutes_4 : decode cX5_lateMinutes 4 = .ok (.iload_n 2, 1) := by decide +kernel
theorem dX5_lateMinutes_5 : decode cX5_lateMinutes 5 = .ok (.aload_n 0, 1) := by decide +kernel
theorem dX5_lateMinutes_6 : decode cX5_lateMinutes 6 = .ok (.getfield 10, 3) := by decide +kernel
theorem dX5_lateMinutes_9 : decode cX5_lateMinutes 9 = .ok (.getfield 69, 3) := by decide +kernel
theorem dX5_lateMinutes_12 : decode cX5_lateMinutes 12 = .ok (.if_icmp .ge 36, 3) := by decide +kernel
theorem dX5_lateMinutes_15 : decode cX5_lateMinutes 15 = .ok (.aload_n 0, 1) := by decide +kernel
theorem dX5_lateMinutes_16 : decode cX5_lateMinutes 16 = .ok (.iload_n 2, 1) := by decide +kernel
theorem dX5_lateMinutes_17 : decode cX5_lateMinutes 17 = .ok (.invokevirtual 162, 3) := by decide +kernel
theorem dX5_lateMinutes_20 : decode cX5_lateMinutes 20 = .ok (.ifCond .eq 22, 3) := by decide +kernel
theorem dX5_lateMinutes_23 : decode cX5_lateMinutes 23 = .ok (.iload_n 1, 1) := by decide +kernel
theorem dX5_lateMinutes_24 : decode cX5_lateMinutes 24 = .ok (.aload_n 0, 1) := by decide +kernel
theorem dX5_lateMinutes_25 : decode cX5_lateMinutes 25 = .ok (.getfield 48, 3) := by decide +kernel
theorem dX5_lateMinutes_28 : decode cX5_lateMinutes 28 = .ok (.iload_n 2, 1) := by decide +kernel
theorem dX5_lateMinutes_29 : decode cX5_lateMinutes 29 = .ok (.iaload, 1) := by decide +kernel
theorem dX5_lateMinutes_30 : decode cX5_lateMinutes 30 = .ok (.aload_n 0, 1) := by decide +kernel
theorem dX5_lateMinutes_31 : decode cX5_lateMinutes 31 = .ok (.getfield 10, 3) := by decide +kernel
theorem dX5_lateMinutes_34 : decode cX5_lateMinutes 34 = .ok (.getfield 140, 3) := by decide +kernel
theorem dX5_lateMinutes_37 : decode cX5_lateMinutes 37 = .ok (.iload_n 2, 1) := by decide +kernel
theorem dX5_lateMinutes_38 : decode cX5_lateMinutes 38 = .ok (.iaload, 1) := by decide +kernel
theorem dX5_lateMinutes_39 : decode cX5_lateMinutes 39 = .ok (.isub, 1) := by decide +kernel
theorem dX5_lateMinutes_40 : decode cX5_lateMinutes 40 = .ok (.iadd, 1) := by decide +kernel
theorem dX5_lateMinutes_41 : decode cX5_lateMinutes 41 = .ok (.istore_n 1, 1) := by decide +kernel
theorem dX5_lateMinutes_42 : decode cX5_lateMinutes 42 = .ok (.iinc 2 1, 3) := by decide +kernel
theorem dX5_lateMinutes_45 : decode cX5_lateMinutes 45 = .ok (.goto (-41), 3) := by decide +kernel
theorem dX5_lateMinutes_48 : decode cX5_lateMinutes 48 = .ok (.iload_n 1, 1) := by decide +kernel
theorem dX5_lateMinutes_49 : decode cX5_lateMinutes 49 = .ok (.ireturn, 1) := by decide +kernel
theorem dX6_init_0 : decode cX6_init 0 = .ok (.aload_n 0, 1) := by decide +kernel
theorem dX6_init_1 : decode cX6_init 1 = .ok (.invokespecial 1, 3) := by decide +kernel
theorem dX6_init_4 : decode cX6_init 4 = .ok (.aload_n 0, 1) := by decide +kernel
theorem dX6_init_5 : decode cX6_init 5 = .ok (.bipush 60, 2) := by decide +kernel
theorem dX6_init_7 : decode cX6_init 7 = .ok (.newarray .int, 2) := by decide +kernel
theorem dX6_init_9 : decode cX6_init 9 = .ok (.putfield 7, 3) := by decide +kernel
theorem dX6_init_12 : decode cX6_init 12 = .ok (.aload_n 0, 1) := by decide +kernel
theorem dX6_init_13 : decode cX6_init 13 = .ok (.bipush 60, 2) := by decide +kernel
theorem dX6_init_15 : decode cX6_init 15 = .ok (.newarray .int, 2) := by decide +kernel
theorem dX6_init_17 : decode cX6_init 17 = .ok (.putfield 13, 3) := by decide +kernel
theorem dX6_init_20 : decode cX6_init 20 = .ok (.aload_n 0, 1) := by decide +kernel
theorem dX6_init_21 : decode cX6_init 21 = .ok (.bipush 60, 2) := by decide +kernel
theorem dX6_init_23 : decode cX6_init 23 = .ok (.newarray .int, 2) := by decide +kernel
theorem dX6_init_25 : decode cX6_init 25 = .ok (.putfield 16, 3) := by decide +kernel
theorem dX6_init_28 : decode cX6_init 28 = .ok (.aload_n 0, 1) := by decide +kernel
theorem dX6_init_29 : decode cX6_init 29 = .ok (.bipush 100, 2) := by decide +kernel
theorem dX6_init_31 : decode cX6_init 31 = .ok (.newarray .int, 2) := by decide +kernel
theorem dX6_init_33 : decode cX6_init 33 = .ok (.putfield 19, 3) := by decide +kernel
theorem dX6_init_36 : decode cX6_init 36 = .ok (.aload_n 0, 1) := by decide +kernel
theorem dX6_init_37 : decode cX6_init 37 = .ok (.bipush 100, 2) := by decide +kernel
theorem dX6_init_39 : decode cX6_init 39 = .ok (.newarray .int, 2) := by decide +kernel
theorem dX6_init_41 : decode cX6_init 41 = .ok (.putfield 22, 3) := by decide +kernel
theorem dX6_init_44 : decode cX6_init 44 = .ok (.aload_n 0, 1) := by decide +kernel
theorem dX6_init_45 : decode cX6_init 45 = .ok (.bipush 100, 2) := by decide +kernel
theorem dX6_init_47 : decode cX6_init 47 = .ok (.newarray .int, 2) := by decide +kernel
theorem dX6_init_49 : decode cX6_init 49 = .ok (.putfield 25, 3) := by decide +kernel
theorem dX6_init_52 : decode cX6_init 52 = .ok (.aload_n 0, 1) := by decide +kernel
theorem dX6_init_53 : decode cX6_init 53 = .ok (.bipush 100, 2) := by decide +kernel
theorem dX6_init_55 : decode cX6_init 55 = .ok (.newarray .int, 2) := by decide +kernel
theorem dX6_init_57 : decode cX6_init 57 = .ok (.putfield 28, 3) := by decide +kernel
theorem dX6_init_60 : decode cX6_init 60 = .ok (.aload_n 0, 1) := by decide +kernel
theorem dX6_init_61 : decode cX6_init 61 = .ok (.bipush 100, 2) := by decide +kernel
theorem dX6_init_63 : decode cX6_init 63 = .ok (.newarray .boolean, 2) := by decide +kernel
theorem dX6_init_65 : decode cX6_init 65 = .ok (.putfield 31, 3) := by decide +kernel
theorem dX6_init_68 : decode cX6_init 68 = .ok (.aload_n 0, 1) := by decide +kernel
theorem dX6_init_69 : decode cX6_init 69 = .ok (.bipush 16, 2) := by decide +kernel
theorem dX6_init_71 : decode cX6_init 71 = .ok (.newarray .boolean, 2) := by decide +kernel
theorem dX6_init_73 : decode cX6_init 73 = .ok (.putfield 35, 3) := by decide +kernel
theorem dX6_init_76 : decode cX6_init 76 = .ok (.aload_n 0, 1) := by decide +kernel
theorem dX6_init_77 : decode cX6_init 77 = .ok (.bipush 30, 2) := by decide +kernel
theorem dX6_init_79 : decode cX6_init 79 = .ok (.newarray .int, 2) := by decide +kernel
theorem dX6_init_81 : decode cX6_init 81 = .ok (.putfield 38, 3) := by decide +kernel
theorem dX6_init_84 : decode cX6_init 84 = .ok (.aload_n 0, 1) := by decide +kernel
theorem dX6_init_85 : decode cX6_init 85 = .ok (.bipush 30, 2) := by decide +kernel
theorem dX6_init_87 : decode cX6_init 87 = .ok (.newarray .int, 2) := by decide +kernel
theorem dX6_init_89 : decode cX6_init 89 = .ok (.putfield 41, 3) := by decide +kernel
theorem dX6_init_92 : decode cX6_init 92 = .ok (.aload_n 0, 1) := by decide +kernel
theorem dX6_init_93 : decode cX6_init 93 = .ok (.bipush 30, 2) := by decide +kernel
theorem dX6_init_95 : decode cX6_init 95 = .ok (.newarray .int, 2) := by decide +kernel
theorem dX6_init_97 : decode cX6_init 97 = .ok (.putfield 44, 3) := by decide +kernel
theorem dX6_init_100 : decode cX6_init 100 = .ok (.aload_n 0, 1) := by decide +kernel
theorem dX6_init_101 : decode cX6_init 101 = .ok (.bipush 30, 2) := by decide +kernel
theorem dX6_init_103 : decode cX6_init 103 = .ok (.newarray .int, 2) := by decide +kernel
theorem dX6_init_105 : decode cX6_init 105 = .ok (.putfield 47, 3) := by decide +kernel
theorem dX6_init_108 : decode cX6_init 108 = .ok (.aload_n 0, 1) := by decide +kernel
theorem dX6_init_109 : decode cX6_init 109 = .ok (.bipush 30, 2) := by decide +kernel
theorem dX6_init_111 : decode cX6_init 111 = .ok (.newarray .int, 2) := by decide +kernel
theorem dX6_init_113 : decode cX6_init 113 = .ok (.putfield 50, 3) := by decide +kernel
theorem dX6_init_116 : decode cX6_init 116 = .ok (.aload_n 0, 1) := by decide +kernel
theorem dX6_init_117 : decode cX6_init 117 = .ok (.bipush 30, 2) := by decide +kernel
theorem dX6_init_119 : decode cX6_init 119 = .ok (.newarray .int, 2) := by decide +kernel
theorem dX6_init_121 : decode cX6_init 121 = .ok (.putfield 53, 3) := by decide +kernel
theorem dX6_init_124 : decode cX6_init 124 = .ok (.aload_n 0, 1) := by decide +kernel
theorem dX6_init_125 : decode cX6_init 125 = .ok (.bipush 60, 2) := by decide +kernel
theorem dX6_init_127 : decode cX6_init 127 = .ok (.newarray .int, 2) := by decide +kernel
theorem dX6_init_129 : decode cX6_init 129 = .ok (.putfield 56, 3) := by decide +kernel
theorem dX6_init_132 : decode cX6_init 132 = .ok (.aload_n 0, 1) := by decide +kernel
theorem dX6_init_133 : decode cX6_init 133 = .ok (.bipush 60, 2) := by decide +kernel
theorem dX6_init_135 : decode cX6_init 135 = .ok (.newarray .int, 2) := by decide +kernel
theorem dX6_init_137 : decode cX6_init 137 = .ok (.putfield 59, 3) := by decide +kernel
theorem dX6_init_140 : decode cX6_init 140 = .ok (.aload_n 0, 1) := by decide +kernel
theorem dX6_init_141 : decode cX6_init 141 = .ok (.sipush 3660, 3) := by decide +kernel
theorem dX6_init_144 : decode cX6_init 144 = .ok (.newarray .boolean, 2) := by decide +kernel
theorem dX6_init_146 : decode cX6_init 146 = .ok (.putfield 62, 3) := by decide +kernel
theorem dX6_init_149 : decode cX6_init 149 = .ok (.aload_n 0, 1) := by decide +kernel
theorem dX6_init_150 : decode cX6_init 150 = .ok (.sipush 3660, 3) := by decide +kernel
theorem dX6_init_153 : decode cX6_init 153 = .ok (.newarray .boolean, 2) := by decide +kernel
theorem dX6_init_155 : decode cX6_init 155 = .ok (.putfield 65, 3) := by decide +kernel
theorem dX6_init_158 : decode cX6_init 158 = .ok (.aload_n 0, 1) := by decide +kernel
theorem dX6_init_159 : decode cX6_init 159 = .ok (.bipush 60, 2) := by decide +kernel
theorem dX6_init_161 : decode cX6_init 161 = .ok (.newarray .int, 2) := by decide +kernel
theorem dX6_init_163 : decode cX6_init 163 = .ok (.putfield 68, 3) := by decide +kernel
theorem dX6_init_166 : decode cX6_init 166 = .ok (.aload_n 0, 1) := by decide +kernel
theorem dX6_init_167 : decode cX6_init 167 = .ok (.bipush 100, 2) := by decide +kernel
theorem dX6_init_169 : decode cX6_init 169 = .ok (.newarray .int, 2) := by decide +kernel
theorem dX6_init_171 : decode cX6_init 171 = .ok (.putfield 71, 3) := by decide +kernel
theorem dX6_init_174 : decode cX6_init 174 = .ok (.aload_n 0, 1) := by decide +kernel
theorem dX6_init_175 : decode cX6_init 175 = .ok (.bipush 100, 2) := by decide +kernel
theorem dX6_init_177 : decode cX6_init 177 = .ok (.newarray .boolean, 2) := by decide +kernel
theorem dX6_init_179 : decode cX6_init 179 = .ok (.putfield 74, 3) := by decide +kernel
theorem dX6_init_182 : decode cX6_init 182 = .ok (.return_, 1) := by decide +kernel
theorem dX6_isEvent_0 : decode cX6_isEvent 0 = .ok (.iload_n 1, 1) := by decide +kernel
theorem dX6_isEvent_1 : decode cX6_isEvent 1 = .ok (.ifCond .lt 15, 3) := by decide +kernel
theorem dX6_isEvent_4 : decode cX6_isEvent 4 = .ok (.iload_n 1, 1) := by decide +kernel
theorem dX6_isEvent_5 : decode cX6_isEvent 5 = .ok (.aload_n 0, 1) := by decide +kernel
theorem dX6_isEvent_6 : decode cX6_isEvent 6 = .ok (.getfield 77, 3) := by decide +kernel
theorem dX6_isEvent_9 : decode cX6_isEvent 9 = .ok (.if_icmp .ge 7, 3) := by decide +kernel
theorem dX6_isEvent_12 : decode cX6_isEvent 12 = .ok (.iconst 1, 1) := by decide +kernel
theorem dX6_isEvent_13 : decode cX6_isEvent 13 = .ok (.goto 4, 3) := by decide +kernel
theorem dX6_isEvent_16 : decode cX6_isEvent 16 = .ok (.iconst 0, 1) := by decide +kernel
theorem dX6_isEvent_17 : decode cX6_isEvent 17 = .ok (.ireturn, 1) := by decide +kernel
theorem dX6_isActivity_0 : decode cX6_isActivity 0 = .ok (.iload_n 1, 1) := by decide +kernel
theorem dX6_isActivity_1 : decode cX6_isActivity 1 = .ok (.ifCond .lt 15, 3) := by decide +kernel
theorem dX6_isActivity_4 : decode cX6_isActivity 4 = .ok (.iload_n 1, 1) := by decide +kernel
theorem dX6_isActivity_5 : decode cX6_isActivity 5 = .ok (.aload_n 0, 1) := by decide +kernel
theorem dX6_isActivity_6 : decode cX6_isActivity 6 = .ok (.getfield 81, 3) := by decide +kernel
theorem dX6_isActivity_9 : decode cX6_isActivity 9 = .ok (.if_icmp .ge 7, 3) := by decide +kernel
theorem dX6_isActivity_12 : decode cX6_isActivity 12 = .ok (.iconst 1, 1) := by decide +kernel
theorem dX6_isActivity_13 : decode cX6_isActivity 13 = .ok (.goto 4, 3) := by decide +kernel
theorem dX6_isActivity_16 : decode cX6_isActivity 16 = .ok (.iconst 0, 1) := by decide +kernel
theorem dX6_isActivity_17 : decode cX6_isActivity 17 = .ok (.ireturn, 1) := by decide +kernel
set_option maxRecDepth 20000 in
theorem ggX6_isChange_X6_isActivity : GoodIn wsX6_isChange wsX6_isActivity := goodIn_r _ [6, 7, 8, 9, 10, 11, 12, 13, 14, 15, 16, 17, 18, 19, 20, 21, 22, 23, 24, 25, 26, 27, 28, 29, 30, 31, 32, 33] (by decide +kernel) (by decide +kernel)
set_option maxRecDepth 20000 in
theorem gX6_isChange_X6_isActivity : GoodIn wsX6_isChange (wsV RX6 84 RX6 yX6_isActivity wsX6_isActivity) := goodIn_app (goodIn_of _ (by decide +kernel)) ggX6_isChange_X6_isActivity
theorem dX6_isChange_0 : decode cX6_isChange 0 = .ok (.aload_n 0, 1) := by decide +kernel
theorem dX6_isChange_1 : decode cX6_isChange 1 = .ok (.iload_n 1, 1) := by decide +kernel
theorem dX6_isChange_2 : decode cX6_isChange 2 = .ok (.invokevirtual 84, 3) := by decide +kernel
theorem dX6_isChange_5 : decode cX6_isChange 5 = .ok (.ifCond .eq 17, 3) := by decide +kernel
theorem dX6_isChange_8 : decode cX6_isChange 8 = .ok (.aload_n 0, 1) := by decide +kernel
theorem dX6_isChange_9 : decode cX6_isChange 9 = .ok (.getfield 19, 3) := by decide +kernel
theorem dX6_isChange_12 : decode cX6_isChange 12 = .ok (.iload_n 1, 1) := by decide +kernel
theorem dX6_isChange_13 : decode cX6_isChange 13 = .ok (.iaload, 1) := by decide +kernel
theorem dX6_isChange_14 : decode cX6_isChange 14 = .ok (.iconst 2, 1) := by decide +kernel
theorem dX6_isChange_15 : decode cX6_isChange 15 = .ok (.if_icmp .ne 7, 3) := by decide +kernel
theorem dX6_isChange_18 : decode cX6_isChange 18 = .ok (.iconst 1, 1) := by decide +kernel
theorem dX6_isChange_19 : decode cX6_isChange 19 = .ok (.goto 4, 3) := by decide +kernel
theorem dX6_isChange_22 : decode cX6_isChange 22 = .ok (.iconst 0, 1) := by decide +kernel
theorem dX6_isChange_23 : decode cX6_isChange 23 = .ok (.ireturn, 1) := by decide +kernel
theorem dX6_isThere_0 : decode cX6_isThere 0 = .ok (.aload_n 0, 1) := by decide +kernel
theorem dX6_isThere_1 : decode cX6_isThere 1 = .ok (.getfield 35, 3) := by decide +kernel
theorem dX6_isThere_4 : decode cX6_isThere 4 = .ok (.aload_n 0, 1) := by decide +kernel
theorem dX6_isThere_5 : decode cX6_isThere 5 = .ok (.getfield 7, 3) := by decide +kernel
theorem dX6_isThere_8 : decode cX6_isThere 8 = .ok (.iload_n 1, 1) := by decide +kernel
theorem dX6_isThere_9 : decode cX6_isThere 9 = .ok (.iaload, 1) := by decide +kernel
theorem dX6_isThere_10 : decode cX6_isThere 10 = .ok (.baload, 1) := by decide +kernel
theorem dX6_isThere_11 : decode cX6_isThere 11 = .ok (.ifCond .ne 7, 3) := by decide +kernel
theorem dX6_isThere_14 : decode cX6_isThere 14 = .ok (.iconst 1, 1) := by decide +kernel
theorem dX6_isThere_15 : decode cX6_isThere 15 = .ok (.goto 4, 3) := by decide +kernel
theorem dX6_isThere_18 : decode cX6_isThere 18 = .ok (.iconst 0, 1) := by decide +kernel
theorem dX6_isThere_19 : decode cX6_isThere 19 = .ok (.ireturn, 1) := by decide +kernel
set_option maxRecDepth 20000 in
theorem ggX6_areThere_X6_isThere : GoodIn wsX6_areThere wsX6_isThere := goodIn_r _ [7, 8, 9, 10, 11, 12, 13, 14, 15, 16, 17, 18, 19, 20, 21, 22, 23, 24, 25, 26, 27, 28, 29, 30, 31, 32, 33, 34, 35] (by decide +kernel) (by decide +kernel)
set_option maxRecDepth 20000 in
theorem gX6_areThere_X6_isThere : GoodIn wsX6_areThere (wsV RX6 88 RX6 yX6_isThere wsX6_isThere) := goodIn_app (goodIn_of _ (by decide +kernel)) ggX6_areThere_X6_isThere
theorem dX6_areThere_0 : decode cX6_areThere 0 = .ok (.aload_n 0, 1) := by decide +kernel
theorem dX6_areThere_1 : decode cX6_areThere 1 = .ok (.aload_n 0, 1) := by decide +kernel
theorem dX6_areThere_2 : decode cX6_areThere 2 = .ok (.getfield 22, 3) := by decide +kernel
theorem dX6_areThere_5 : decode cX6_areThere 5 = .ok (.iload_n 1, 1) := by decide +kernel
theorem dX6_areThere_6 : decode cX6_areThere 6 = .ok (.iaload, 1) := by decide +kernel
theorem dX6_areThere_7 : decode cX6_areThere 7 = .ok (.invokevirtual 88, 3) := by decide +kernel
theorem dX6_areThere_10 : decode cX6_areThere 10 = .ok (.ifCond .eq 20, 3) := by decide +kernel
theorem dX6_areThere_13 : decode cX6_areThere 13 = .ok (.aload_n 0, 1) := by decide +kernel
theorem dX6_areThere_14 : decode cX6_areThere 14 = .ok (.aload_n 0, 1) := by decide +kernel
theorem dX6_areThere_15 : decode cX6_areThere 15 = .ok (.getfield 25, 3) := by decide +kernel
theorem dX6_areThere_18 : decode cX6_areThere 18 = .ok (.iload_n 1, 1) := by decide +kernel
theorem dX6_areThere_19 : decode cX6_areThere 19 = .ok (.iaload, 1) := by decide +kernel
theorem dX6_areThere_20 : decode cX6_areThere 20 = .ok (.invokevirtual 88, 3) := by decide +kernel
theorem dX6_areThere_23 : decode cX6_areThere 23 = .ok (.ifCond .eq 7, 3) := by decide +kernel
theorem dX6_areThere_26 : decode cX6_areThere 26 = .ok (.iconst 1, 1) := by decide +kernel
theorem dX6_areThere_27 : decode cX6_areThere 27 = .ok (.goto 4, 3) := by decide +kernel
theorem dX6_areThere_30 : decode cX6_areThere 30 = .ok (.iconst 0, 1) := by decide +kernel
theorem dX6_areThere_31 : decode cX6_areThere 31 = .ok (.ireturn, 1) := by decide +kernel
theorem dX6_event_0 : decode cX6_event 0 = .ok (.iload_n 1, 1) := by decide +kernel
theorem dX6_event_1 : decode cX6_event 1 = .ok (.ifCond .lt 29, 3) := by decide +kernel
theorem dX6_event_4 : decode cX6_event 4 = .ok (.iload_n 1, 1) := by decide +kernel
theorem dX6_event_5 : decode cX6_event 5 = .ok (.bipush 16, 2) := by decide +kernel
theorem dX6_event_7 : decode cX6_event 7 = .ok (.if_icmp .ge 23, 3) := by decide +kernel
theorem dX6_event_10 : decode cX6_event 10 = .ok (.iload_n 2, 1) := by decide +kernel
theorem dX6_event_11 : decode cX6_event 11 = .ok (.ifCond .lt 19, 3) := by decide +kernel
theorem dX6_event_14 : decode cX6_event 14 = .ok (.iload_n 2, 1) := by decide +kernel
theorem dX6_event_15 : decode cX6_event 15 = .ok (.sipush 2000, 3) := by decide +kernel
theorem dX6_event_18 : decode cX6_event 18 = .ok (.if_icmp .gt 12, 3) := by decide +kernel
theorem dX6_event_21 : decode cX6_event 21 = .ok (.aload_n 0, 1) := by decide +kernel
theorem dX6_event_22 : decode cX6_event 22 = .ok (.getfield 77, 3) := by decide +kernel
theorem dX6_event_25 : decode cX6_event 25 = .ok (.bipush 60, 2) := by decide +kernel
theorem dX6_event_27 : decode cX6_event 27 = .ok (.if_icmp .ne 5, 3) := by decide +kernel
theorem dX6_event_30 : decode cX6_event 30 = .ok (.iconst (-1), 1) := by decide +kernel
theorem dX6_event_31 : decode cX6_event 31 = .ok (.ireturn, 1) := by decide +kernel
theorem dX6_event_32 : decode cX6_event 32 = .ok (.aload_n 0, 1) := by decide +kernel
theorem dX6_event_33 : decode cX6_event 33 = .ok (.getfield 7, 3) := by decide +kernel
theorem dX6_event_36 : decode cX6_event 36 = .ok (.aload_n 0, 1) := by decide +kernel
theorem dX6_event_37 : decode cX6_event 37 = .ok (.getfield 77, 3) := by decide +kernel
theorem dX6_event_40 : decode cX6_event 40 = .ok (.iload_n 1, 1) := by decide +kernel
theorem dX6_event_41 : decode cX6_event 41 = .ok (.iastore, 1) := by decide +kernel
theorem dX6_event_42 : decode cX6_event 42 = .ok (.aload_n 0, 1) := by decide +kernel
theorem dX6_event_43 : decode cX6_event 43 = .ok (.getfield 13, 3) := by decide +kernel
theorem dX6_event_46 : decode cX6_event 46 = .ok (.aload_n 0, 1) := by decide +kernel
theorem dX6_event_47 : decode cX6_event 47 = .ok (.getfield 77, 3) := by decide +kernel
theorem dX6_event_50 : decode cX6_event 50 = .ok (.iload_n 2, 1) := by decide +kernel
theorem dX6_event_51 : decode cX6_event 51 = .ok (.iastore, 1) := by decide +kernel
theorem dX6_event_52 : decode cX6_event 52 = .ok (.aload_n 0, 1) := by decide +kernel
theorem dX6_event_53 : decode cX6_event 53 = .ok (.getfield 16, 3) := by decide +kernel
theorem dX6_event_56 : decode cX6_event 56 = .ok (.aload_n 0, 1) := by decide +kernel
theorem dX6_event_57 : decode cX6_event 57 = .ok (.getfield 77, 3) := by decide +kernel
theorem dX6_event_60 : decode cX6_event 60 = .ok (.iconst 0, 1) := by decide +kernel
theorem dX6_event_61 : decode cX6_event 61 = .ok (.iastore, 1) := by decide +kernel
theorem dX6_event_62 : decode cX6_event 62 = .ok (.aload_n 0, 1) := by decide +kernel
theorem dX6_event_63 : decode cX6_event 63 = .ok (.aload_n 0, 1) := by decide +kernel
theorem dX6_event_64 : decode cX6_event 64 = .ok (.getfield 77, 3) := by decide +kernel
theorem dX6_event_67 : decode cX6_event 67 = .ok (.iconst 1, 1) := by decide +kernel
theorem dX6_event_68 : decode cX6_event 68 = .ok (.iadd, 1) := by decide +kernel
theorem dX6_event_69 : decode cX6_event 69 = .ok (.putfield 77, 3) := by decide +kernel
theorem dX6_event_72 : decode cX6_event 72 = .ok (.aload_n 0, 1) := by decide +kernel
theorem dX6_event_73 : decode cX6_event 73 = .ok (.getfield 77, 3) := by decide +kernel
theorem dX6_event_76 : decode cX6_event 76 = .ok (.iconst 1, 1) := by decide +kernel
theorem dX6_event_77 : decode cX6_event 77 = .ok (.isub, 1) := by decide +kernel
theorem dX6_event_78 : decode cX6_event 78 = .ok (.ireturn, 1) := by decide +kernel
set_option maxRecDepth 20000 in
theorem ggX6_activity_X6_isEvent : GoodIn wsX6_activity wsX6_isEvent := goodIn_r _ [12, 13, 14, 15, 16, 17, 18, 19, 20, 21, 22, 23, 24, 25, 26, 27, 28, 29, 30, 31, 32, 33, 34, 35, 36, 37, 38, 39] (by decide +kernel) (by decide +kernel)
set_option maxRecDepth 20000 in
theorem gX6_activity_X6_isEvent : GoodIn wsX6_activity (wsV RX6 91 RX6 yX6_isEvent wsX6_isEvent) := goodIn_app (goodIn_of _ (by decide +kernel)) ggX6_activity_X6_isEvent
theorem dX6_activity_0 : decode cX6_activity 0 = .ok (.iload_n 1, 1) := by decide +kernel
theorem dX6_activity_1 : decode cX6_activity 1 = .ok (.ifCond .lt 51, 3) := by decide +kernel
theorem dX6_activity_4 : decode cX6_activity 4 = .ok (.iload_n 1, 1) := by decide +kernel
theorem dX6_activity_5 : decode cX6_activity 5 = .ok (.iconst 4, 1) := by decide +kernel
theorem dX6_activity_6 : decode cX6_activity 6 = .ok (.if_icmp .gt 46, 3) := by decide +kernel
theorem dX6_activity_9 : decode cX6_activity 9 = .ok (.aload_n 0, 1) := by decide +kernel
theorem dX6_activity_10 : decode cX6_activity 10 = .ok (.iload_n 2, 1) := by decide +kernel
theorem dX6_activity_11 : decode cX6_activity 11 = .ok (.invokevirtual 91, 3) := by decide +kernel
theorem dX6_activity_14 : decode cX6_activity 14 = .ok (.ifCond .eq 38, 3) := by decide +kernel
theorem dX6_activity_17 : decode cX6_activity 17 = .ok (.aload_n 0, 1) := by decide +kernel
theorem dX6_activity_18 : decode cX6_activity 18 = .ok (.iload_n 3, 1) := by decide +kernel
theorem dX6_activity_19 : decode cX6_activity 19 = .ok (.invokevirtual 91, 3) := by decide +kernel
theorem dX6_activity_22 : decode cX6_activity 22 = .ok (.ifCond .eq 30, 3) := by decide +kernel
theorem dX6_activity_25 : decode cX6_activity 25 = .ok (.iload_n 2, 1) := by decide +kernel
theorem dX6_activity_26 : decode cX6_activity 26 = .ok (.iload_n 3, 1) := by decide +kernel
theorem dX6_activity_27 : decode cX6_activity 27 = .ok (.if_icmp .eq 25, 3) := by decide +kernel
theorem dX6_activity_30 : decode cX6_activity 30 = .ok (.iload 4, 2) := by decide +kernel
theorem dX6_activity_32 : decode cX6_activity 32 = .ok (.ifCond .lt 20, 3) := by decide +kernel
theorem dX6_activity_35 : decode cX6_activity 35 = .ok (.iload 4, 2) := by decide +kernel
theorem dX6_activity_37 : decode cX6_activity 37 = .ok (.sipush 500, 3) := by decide +kernel
theorem dX6_activity_40 : decode cX6_activity 40 = .ok (.if_icmp .gt 12, 3) := by decide +kernel
theorem dX6_activity_43 : decode cX6_activity 43 = .ok (.aload_n 0, 1) := by decide +kernel
theorem dX6_activity_44 : decode cX6_activity 44 = .ok (.getfield 81, 3) := by decide +kernel
theorem dX6_activity_47 : decode cX6_activity 47 = .ok (.bipush 100, 2) := by decide +kernel
theorem dX6_activity_49 : decode cX6_activity 49 = .ok (.if_icmp .ne 5, 3) := by decide +kernel
theorem dX6_activity_52 : decode cX6_activity 52 = .ok (.iconst (-1), 1) := by decide +kernel
theorem dX6_activity_53 : decode cX6_activity 53 = .ok (.ireturn, 1) := by decide +kernel
theorem dX6_activity_54 : decode cX6_activity 54 = .ok (.aload_n 0, 1) := by decide +kernel
theorem dX6_activity_55 : decode cX6_activity 55 = .ok (.getfield 7, 3) := by decide +kernel
theorem dX6_activity_58 : decode cX6_activity 58 = .ok (.iload_n 2, 1) := by decide +kernel
theorem dX6_activity_59 : decode cX6_activity 59 = .ok (.iaload, 1) := by decide +kernel
theorem dX6_activity_60 : decode cX6_activity 60 = .ok (.aload_n 0, 1) := by decide +kernel
theorem dX6_activity_61 : decode cX6_activity 61 = .ok (.getfield 7, 3) := by decide +kernel
theorem dX6_activity_64 : decode cX6_activity 64 = .ok (.iload_n 3, 1) := by decide +kernel
theorem dX6_activity_65 : decode cX6_activity 65 = .ok (.iaload, 1) := by decide +kernel
theorem dX6_activity_66 : decode cX6_activity 66 = .ok (.if_icmp .ne 7, 3) := by decide +kernel
theorem dX6_activity_69 : decode cX6_activity 69 = .ok (.iconst 1, 1) := by decide +kernel
theorem dX6_activity_70 : decode cX6_activity 70 = .ok (.goto 4, 3) := by decide +kernel
theorem dX6_activity_73 : decode cX6_activity 73 = .ok (.iconst 0, 1) := by decide +kernel
theorem dX6_activity_74 : decode cX6_activity 74 = .ok (.iload_n 1, 1) := by decide +kernel
theorem dX6_activity_75 : decode cX6_activity 75 = .ok (.ifCond .eq 8, 3) := by decide +kernel
theorem dX6_activity_78 : decode cX6_activity 78 = .ok (.iload_n 1, 1) := by decide +kernel
theorem dX6_activity_79 : decode cX6_activity 79 = .ok (.iconst 1, 1) := by decide +kernel
theorem dX6_activity_80 : decode cX6_activity 80 = .ok (.if_icmp .ne 7, 3) := by decide +kernel
theorem dX6_activity_83 : decode cX6_activity 83 = .ok (.iconst 1, 1) := by decide +kernel
theorem dX6_activity_84 : decode cX6_activity 84 = .ok (.goto 4, 3) := by decide +kernel
theorem dX6_activity_87 : decode cX6_activity 87 = .ok (.iconst 0, 1) := by decide +kernel
theorem dX6_activity_88 : decode cX6_activity 88 = .ok (.if_icmp .eq 5, 3) := by decide +kernel
theorem dX6_activity_91 : decode cX6_activity 91 = .ok (.iconst (-1), 1) := by decide +kernel
theorem dX6_activity_92 : decode cX6_activity 92 = .ok (.ireturn, 1) := by decide +kernel
theorem dX6_activity_93 : decode cX6_activity 93 = .ok (.aload_n 0, 1) := by decide +kernel
theorem dX6_activity_94 : decode cX6_activity 94 = .ok (.getfield 19, 3) := by decide +kernel
theorem dX6_activity_97 : decode cX6_activity 97 = .ok (.aload_n 0, 1) := by decide +kernel
theorem dX6_activity_98 : decode cX6_activity 98 = .ok (.getfield 81, 3) := by decide +kernel
theorem dX6_activity_101 : decode cX6_activity 101 = .ok (.iload_n 1, 1) := by decide +kernel
theorem dX6_activity_102 : decode cX6_activity 102 = .ok (.iastore, 1) := by decide +kernel
theorem dX6_activity_103 : decode cX6_activity 103 = .ok (.aload_n 0, 1) := by decide +kernel
theorem dX6_activity_104 : decode cX6_activity 104 = .ok (.getfield 22, 3) := by decide +kernel
theorem dX6_activity_107 : decode cX6_activity 107 = .ok (.aload_n 0, 1) := by decide +kernel
theorem dX6_activity_108 : decode cX6_activity 108 = .ok (.getfield 81, 3) := by decide +kernel
theorem dX6_activity_111 : decode cX6_activity 111 = .ok (.iload_n 2, 1) := by decide +kernel
theorem dX6_activity_112 : decode cX6_activity 112 = .ok (.iastore, 1) := by decide +kernel
theorem dX6_activity_113 : decode cX6_activity 113 = .ok (.aload_n 0, 1) := by decide +kernel
theorem dX6_activity_114 : decode cX6_activity 114 = .ok (.getfield 25, 3) := by decide +kernel
theorem dX6_activity_117 : decode cX6_activity 117 = .ok (.aload_n 0, 1) := by decide +kernel
theorem dX6_activity_118 : decode cX6_activity 118 = .ok (.getfield 81, 3) := by decide +kernel
theorem dX6_activity_121 : decode cX6_activity 121 = .ok (.iload_n 3, 1) := by decide +kernel
theorem dX6_activity_122 : decode cX6_activity 122 = .ok (.iastore, 1) := by decide +kernel
theorem dX6_activity_123 : decode cX6_activity 123 = .ok (.aload_n 0, 1) := by decide +kernel
theorem dX6_activity_124 : decode cX6_activity 124 = .ok (.getfield 28, 3) := by decide +kernel
theorem dX6_activity_127 : decode cX6_activity 127 = .ok (.aload_n 0, 1) := by decide +kernel
theorem dX6_activity_128 : decode cX6_activity 128 = .ok (.getfield 81, 3) := by decide +kernel
theorem dX6_activity_131 : decode cX6_activity 131 = .ok (.iload 4, 2) := by decide +kernel
theorem dX6_activity_133 : decode cX6_activity 133 = .ok (.iastore, 1) := by decide +kernel
theorem dX6_activity_134 : decode cX6_activity 134 = .ok (.aload_n 0, 1) := by decide +kernel
theorem dX6_activity_135 : decode cX6_activity 135 = .ok (.getfield 31, 3) := by decide +kernel
theorem dX6_activity_138 : decode cX6_activity 138 = .ok (.aload_n 0, 1) := by decide +kernel
theorem dX6_activity_139 : decode cX6_activity 139 = .ok (.getfield 81, 3) := by decide +kernel
theorem dX6_activity_142 : decode cX6_activity 142 = .ok (.iconst 1, 1) := by decide +kernel
theorem dX6_activity_143 : decode cX6_activity 143 = .ok (.bastore, 1) := by decide +kernel
theorem dX6_activity_144 : decode cX6_activity 144 = .ok (.aload_n 0, 1) := by decide +kernel
theorem dX6_activity_145 : decode cX6_activity 145 = .ok (.aload_n 0, 1) := by decide +kernel
theorem dX6_activity_146 : decode cX6_activity 146 = .ok (.getfield 81, 3) := by decide +kernel
theorem dX6_activity_149 : decode cX6_activity 149 = .ok (.iconst 1, 1) := by decide +kernel
theorem dX6_activity_150 : decode cX6_activity 150 = .ok (.iadd, 1) := by decide +kernel
theorem dX6_activity_151 : decode cX6_activity 151 = .ok (.putfield 81, 3) := by decide +kernel
theorem dX6_activity_154 : decode cX6_activity 154 = .ok (.aload_n 0, 1) := by decide +kernel
theorem dX6_activity_155 : decode cX6_activity 155 = .ok (.getfield 81, 3) := by decide +kernel
theorem dX6_activity_158 : decode cX6_activity 158 = .ok (.iconst 1, 1) := by decide +kernel
theorem dX6_activity_159 : decode cX6_activity 159 = .ok (.isub, 1) := by decide +kernel
theorem dX6_activity_160 : decode cX6_activity 160 = .ok (.ireturn, 1) := by decide +kernel
set_option maxRecDepth 20000 in
theorem ggX6_source_X6_isEvent : GoodIn wsX6_source wsX6_isEvent := goodIn_r _ [6, 7, 8, 9, 10, 11, 12, 13, 14, 15, 16, 17, 18, 19, 20, 21, 22, 23, 24, 25, 26, 27, 28, 29, 30, 31, 32, 33] (by decide +kernel) (by decide +kernel)
set_option maxRecDepth 20000 in
theorem gX6_source_X6_isEvent : GoodIn wsX6_source (wsV RX6 91 RX6 yX6_isEvent wsX6_isEvent) := goodIn_app (goodIn_of _ (by decide +kernel)) ggX6_source_X6_isEvent
theorem dX6_source_0 : decode cX6_source 0 = .ok (.aload_n 0, 1) := by decide +kernel
theorem dX6_source_1 : decode cX6_source 1 = .ok (.iload_n 1, 1) := by decide +kernel
theorem dX6_source_2 : decode cX6_source 2 = .ok (.invokevirtual 91, 3) := by decide +kernel
theorem dX6_source_5 : decode cX6_source 5 = .ok (.ifCond .eq 14, 3) := by decide +kernel
theorem dX6_source_8 : decode cX6_source 8 = .ok (.iload_n 2, 1) := by decide +kernel
theorem dX6_source_9 : decode cX6_source 9 = .ok (.ifCond .lt 10, 3) := by decide +kernel
theorem dX6_source_12 : decode cX6_source 12 = .ok (.iload_n 2, 1) := by decide +kernel
theorem dX6_source_13 : decode cX6_source 13 = .ok (.sipush 500, 3) := by decide +kernel
theorem dX6_source_16 : decode cX6_source 16 = .ok (.if_icmp .le 5, 3) := by decide +kernel
theorem dX6_source_19 : decode cX6_source 19 = .ok (.iconst 0, 1) := by decide +kernel
theorem dX6_source_20 : decode cX6_source 20 = .ok (.ireturn, 1) := by decide +kernel
theorem dX6_source_21 : decode cX6_source 21 = .ok (.aload_n 0, 1) := by decide +kernel
theorem dX6_source_22 : decode cX6_source 22 = .ok (.getfield 16, 3) := by decide +kernel
theorem dX6_source_25 : decode cX6_source 25 = .ok (.iload_n 1, 1) := by decide +kernel
theorem dX6_source_26 : decode cX6_source 26 = .ok (.iload_n 2, 1) := by decide +kernel
theorem dX6_source_27 : decode cX6_source 27 = .ok (.iastore, 1) := by decide +kernel
theorem dX6_source_28 : decode cX6_source 28 = .ok (.iconst 1, 1) := by decide +kernel
theorem dX6_source_29 : decode cX6_source 29 = .ok (.ireturn, 1) := by decide +kernel
set_option maxRecDepth 20000 in
theorem ggX6_keep_X6_isChange : GoodIn wsX6_keep wsX6_isChange := goodIn_r _ [6, 7, 8, 9, 10, 5, 11, 12, 13, 14, 15, 16, 17, 18, 19, 20, 21, 22, 23, 24, 25, 26, 27, 28, 29, 30, 31, 32, 33, 34, 35, 36, 37, 38] (by decide +kernel) (by decide +kernel)
set_option maxRecDepth 20000 in
theorem gX6_keep_X6_isChange : GoodIn wsX6_keep (wsV RX6 94 RX6 yX6_isChange wsX6_isChange) := goodIn_app (goodIn_of _ (by decide +kernel)) ggX6_keep_X6_isChange
theorem dX6_keep_0 : decode cX6_keep 0 = .ok (.aload_n 0, 1) := by decide +kernel
theorem dX6_keep_1 : decode cX6_keep 1 = .ok (.iload_n 1, 1) := by decide +kernel
theorem dX6_keep_2 : decode cX6_keep 2 = .ok (.invokevirtual 94, 3) := by decide +kernel
theorem dX6_keep_5 : decode cX6_keep 5 = .ok (.ifCond .eq 13, 3) := by decide +kernel
theorem dX6_keep_8 : decode cX6_keep 8 = .ok (.aload_n 0, 1) := by decide +kernel
theorem dX6_keep_9 : decode cX6_keep 9 = .ok (.getfield 31, 3) := by decide +kernel
theorem dX6_keep_12 : decode cX6_keep 12 = .ok (.iload_n 1, 1) := by decide +kernel
theorem dX6_keep_13 : decode cX6_keep 13 = .ok (.baload, 1) := by decide +kernel
theorem dX6_keep_14 : decode cX6_keep 14 = .ok (.iload_n 2, 1) := by decide +kernel
theorem dX6_keep_15 : decode cX6_keep 15 = .ok (.if_icmp .ne 5, 3) := by decide +kernel
theorem dX6_keep_18 : decode cX6_keep 18 = .ok (.iconst 0, 1) := by decide +kernel
theorem dX6_keep_19 : decode cX6_keep 19 = .ok (.ireturn, 1) := by decide +kernel
theorem dX6_keep_20 : decode cX6_keep 20 = .ok (.aload_n 0, 1) := by decide +kernel
theorem dX6_keep_21 : decode cX6_keep 21 = .ok (.getfield 31, 3) := by decide +kernel
theorem dX6_keep_24 : decode cX6_keep 24 = .ok (.iload_n 1, 1) := by decide +kernel
theorem dX6_keep_25 : decode cX6_keep 25 = .ok (.iload_n 2, 1) := by decide +kernel
theorem dX6_keep_26 : decode cX6_keep 26 = .ok (.bastore, 1) := by decide +kernel
theorem dX6_keep_27 : decode cX6_keep 27 = .ok (.iconst 1, 1) := by decide +kernel
theorem dX6_keep_28 : decode cX6_keep 28 = .ok (.ireturn, 1) := by decide +kernel
set_option maxRecDepth 20000 in
theorem ggX6_turn_X6_isActivity : GoodIn wsX6_turn wsX6_isActivity := goodIn_r _ [8, 9, 10, 11, 12, 13, 14, 15, 16, 17, 18, 19, 20, 21, 22, 23, 24, 25, 26, 27, 28, 29, 30, 31, 32, 33, 34, 35] (by decide +kernel) (by decide +kernel)
set_option maxRecDepth 20000 in
theorem gX6_turn_X6_isActivity : GoodIn wsX6_turn (wsV RX6 84 RX6 yX6_isActivity wsX6_isActivity) := goodIn_app (goodIn_of _ (by decide +kernel)) ggX6_turn_X6_isActivity
theorem dX6_turn_0 : decode cX6_turn 0 = .ok (.aload_n 0, 1) := by decide +kernel
theorem dX6_turn_1 : decode cX6_turn 1 = .ok (.iload_n 1, 1) := by decide +kernel
theorem dX6_turn_2 : decode cX6_turn 2 = .ok (.invokevirtual 84, 3) := by decide +kernel
theorem dX6_turn_5 : decode cX6_turn 5 = .ok (.ifCond .eq 13, 3) := by decide +kernel
theorem dX6_turn_8 : decode cX6_turn 8 = .ok (.aload_n 0, 1) := by decide +kernel
theorem dX6_turn_9 : decode cX6_turn 9 = .ok (.getfield 19, 3) := by decide +kernel
theorem dX6_turn_12 : decode cX6_turn 12 = .ok (.iload_n 1, 1) := by decide +kernel
theorem dX6_turn_13 : decode cX6_turn 13 = .ok (.iaload, 1) := by decide +kernel
theorem dX6_turn_14 : decode cX6_turn 14 = .ok (.iconst 3, 1) := by decide +kernel
theorem dX6_turn_15 : decode cX6_turn 15 = .ok (.if_icmp .eq 5, 3) := by decide +kernel
theorem dX6_turn_18 : decode cX6_turn 18 = .ok (.iconst 0, 1) := by decide +kernel
theorem dX6_turn_19 : decode cX6_turn 19 = .ok (.ireturn, 1) := by decide +kernel
theorem dX6_turn_20 : decode cX6_turn 20 = .ok (.aload_n 0, 1) := by decide +kernel
theorem dX6_turn_21 : decode cX6_turn 21 = .ok (.getfield 22, 3) := by decide +kernel
theorem dX6_turn_24 : decode cX6_turn 24 = .ok (.iload_n 1, 1) := by decide +kernel
theorem dX6_turn_25 : decode cX6_turn 25 = .ok (.iaload, 1) := by decide +kernel
theorem dX6_turn_26 : decode cX6_turn 26 = .ok (.istore_n 2, 1) := by decide +kernel
theorem dX6_turn_27 : decode cX6_turn 27 = .ok (.aload_n 0, 1) := by decide +kernel
theorem dX6_turn_28 : decode cX6_turn 28 = .ok (.getfield 22, 3) := by decide +kernel
theorem dX6_turn_31 : decode cX6_turn 31 = .ok (.iload_n 1, 1) := by decide +kernel
theorem dX6_turn_32 : decode cX6_turn 32 = .ok (.aload_n 0, 1) := by decide +kernel
theorem dX6_turn_33 : decode cX6_turn 33 = .ok (.getfield 25, 3) := by decide +kernel
theorem dX6_turn_36 : decode cX6_turn 36 = .ok (.iload_n 1, 1) := by decide +kernel
theorem dX6_turn_37 : decode cX6_turn 37 = .ok (.iaload, 1) := by decide +kernel
theorem dX6_turn_38 : decode cX6_turn 38 = .ok (.iastore, 1) := by decide +kernel
theorem dX6_turn_39 : decode cX6_turn 39 = .ok (.aload_n 0, 1) := by decide +kernel
theorem dX6_turn_40 : decode cX6_turn 40 = .ok (.getfield 25, 3) := by decide +kernel
theorem dX6_turn_43 : decode cX6_turn 43 = .ok (.iload_n 1, 1) := by decide +kernel
theorem dX6_turn_44 : decode cX6_turn 44 = .ok (.iload_n 2, 1) := by decide +kernel
theorem dX6_turn_45 : decode cX6_turn 45 = .ok (.iastore, 1) := by decide +kernel
theorem dX6_turn_46 : decode cX6_turn 46 = .ok (.iconst 1, 1) := by decide +kernel
theorem dX6_turn_47 : decode cX6_turn 47 = .ok (.ireturn, 1) := by decide +kernel
theorem dX6_cancel_0 : decode cX6_cancel 0 = .ok (.iload_n 1, 1) := by decide +kernel
theorem dX6_cancel_1 : decode cX6_cancel 1 = .ok (.ifCond .lt 19, 3) := by decide +kernel
theorem dX6_cancel_4 : decode cX6_cancel 4 = .ok (.iload_n 1, 1) := by decide +kernel
theorem dX6_cancel_5 : decode cX6_cancel 5 = .ok (.bipush 16, 2) := by decide +kernel
theorem dX6_cancel_7 : decode cX6_cancel 7 = .ok (.if_icmp .ge 13, 3) := by decide +kernel
theorem dX6_cancel_10 : decode cX6_cancel 10 = .ok (.aload_n 0, 1) := by decide +kernel
theorem dX6_cancel_11 : decode cX6_cancel 11 = .ok (.getfield 35, 3) := by decide +kernel
theorem dX6_cancel_14 : decode cX6_cancel 14 = .ok (.iload_n 1, 1) := by decide +kernel
theorem dX6_cancel_15 : decode cX6_cancel 15 = .ok (.baload, 1) := by decide +kernel
theorem dX6_cancel_16 : decode cX6_cancel 16 = .ok (.iload_n 2, 1) := by decide +kernel
theorem dX6_cancel_17 : decode cX6_cancel 17 = .ok (.if_icmp .ne 5, 3) := by decide +kernel
theorem dX6_cancel_20 : decode cX6_cancel 20 = .ok (.iconst 0, 1) := by decide +kernel
theorem dX6_cancel_21 : decode cX6_cancel 21 = .ok (.ireturn, 1) := by decide +kernel
theorem dX6_cancel_22 : decode cX6_cancel 22 = .ok (.aload_n 0, 1) := by decide +kernel
theorem dX6_cancel_23 : decode cX6_cancel 23 = .ok (.getfield 35, 3) := by decide +kernel
theorem dX6_cancel_26 : decode cX6_cancel 26 = .ok (.iload_n 1, 1) := by decide +kernel
theorem dX6_cancel_27 : decode cX6_cancel 27 = .ok (.iload_n 2, 1) := by decide +kernel
theorem dX6_cancel_28 : decode cX6_cancel 28 = .ok (.bastore, 1) := by decide +kernel
theorem dX6_cancel_29 : decode cX6_cancel 29 = .ok (.iconst 1, 1) := by decide +kernel
theorem dX6_cancel_30 : decode cX6_cancel 30 = .ok (.ireturn, 1) := by decide +kernel
set_option maxRecDepth 20000 in
theorem ggX6_group_X6_isEvent : GoodIn wsX6_group wsX6_isEvent := goodIn_r _ [15, 16, 27, 28, 29, 30, 31, 32, 33, 34, 35, 36, 37, 38, 39, 40, 41, 42, 43, 44, 45, 46, 47, 48, 49, 50, 51, 52] (by decide +kernel) (by decide +kernel)
set_option maxRecDepth 20000 in
theorem gX6_group_X6_isEvent : GoodIn wsX6_group (wsV RX6 91 RX6 yX6_isEvent wsX6_isEvent) := goodIn_app (goodIn_of _ (by decide +kernel)) ggX6_group_X6_isEvent
set_option maxRecDepth 20000 in
theorem ggX6_group_X6_isChange : GoodIn wsX6_group wsX6_isChange := goodIn_r _ [20, 21, 22, 23, 24, 14, 25, 26, 27, 28, 29, 30, 31, 32, 33, 34, 35, 36, 37, 38, 39, 40, 41, 42, 43, 44, 45, 46, 47, 48, 49, 50, 51, 52] (by decide +kernel) (by decide +kernel)
set_option maxRecDepth 20000 in
theorem gX6_group_X6_isChange : GoodIn wsX6_group (wsV RX6 94 RX6 yX6_isChange wsX6_isChange) := goodIn_app (goodIn_of _ (by decide +kernel)) ggX6_group_X6_isChange
theorem dX6_group_0 : decode cX6_group 0 = .ok (.aload_n 0, 1) := by decide +kernel
theorem dX6_group_1 : decode cX6_group 1 = .ok (.getfield 97, 3) := by decide +kernel
theorem dX6_group_4 : decode cX6_group 4 = .ok (.bipush 30, 2) := by decide +kernel
theorem dX6_group_6 : decode cX6_group 6 = .ok (.if_icmp .eq 45, 3) := by decide +kernel
theorem dX6_group_9 : decode cX6_group 9 = .ok (.iload_n 1, 1) := by decide +kernel
theorem dX6_group_10 : decode cX6_group 10 = .ok (.iconst 1, 1) := by decide +kernel
theorem dX6_group_11 : decode cX6_group 11 = .ok (.if_icmp .lt 40, 3) := by decide +kernel
theorem dX6_group_14 : decode cX6_group 14 = .ok (.iload_n 1, 1) := by decide +kernel
theorem dX6_group_15 : decode cX6_group 15 = .ok (.sipush 1000, 3) := by decide +kernel
theorem dX6_group_18 : decode cX6_group 18 = .ok (.if_icmp .gt 33, 3) := by decide +kernel
theorem dX6_group_21 : decode cX6_group 21 = .ok (.aload_n 0, 1) := by decide +kernel
theorem dX6_group_22 : decode cX6_group 22 = .ok (.iload_n 2, 1) := by decide +kernel
theorem dX6_group_23 : decode cX6_group 23 = .ok (.invokevirtual 91, 3) := by decide +kernel
theorem dX6_group_26 : decode cX6_group 26 = .ok (.ifCond .eq 25, 3) := by decide +kernel
theorem dX6_group_29 : decode cX6_group 29 = .ok (.aload_n 0, 1) := by decide +kernel
theorem dX6_group_30 : decode cX6_group 30 = .ok (.iload 5, 2) := by decide +kernel
theorem dX6_group_32 : decode cX6_group 32 = .ok (.invokevirtual 91, 3) := by decide +kernel
theorem dX6_group_35 : decode cX6_group 35 = .ok (.ifCond .eq 16, 3) := by decide +kernel
theorem dX6_group_38 : decode cX6_group 38 = .ok (.iload 6, 2) := by decide +kernel
theorem dX6_group_40 : decode cX6_group 40 = .ok (.ifCond .lt 11, 3) := by decide +kernel
theorem dX6_group_43 : decode cX6_group 43 = .ok (.iload 6, 2) := by decide +kernel
theorem dX6_group_45 : decode cX6_group 45 = .ok (.sipush 1000, 3) := by decide +kernel
theorem dX6_group_48 : decode cX6_group 48 = .ok (.if_icmp .le 5, 3) := by decide +kernel
theorem dX6_group_51 : decode cX6_group 51 = .ok (.iconst (-1), 1) := by decide +kernel
theorem dX6_group_52 : decode cX6_group 52 = .ok (.ireturn, 1) := by decide +kernel
theorem dX6_group_53 : decode cX6_group 53 = .ok (.iload_n 3, 1) := by decide +kernel
theorem dX6_group_54 : decode cX6_group 54 = .ok (.iconst (-1), 1) := by decide +kernel
theorem dX6_group_55 : decode cX6_group 55 = .ok (.if_icmp .eq 11, 3) := by decide +kernel
theorem dX6_group_58 : decode cX6_group 58 = .ok (.aload_n 0, 1) := by decide +kernel
theorem dX6_group_59 : decode cX6_group 59 = .ok (.iload_n 3, 1) := by decide +kernel
theorem dX6_group_60 : decode cX6_group 60 = .ok (.invokevirtual 94, 3) := by decide +kernel
theorem dX6_group_63 : decode cX6_group 63 = .ok (.ifCond .eq 23, 3) := by decide +kernel
theorem dX6_group_66 : decode cX6_group 66 = .ok (.iload 4, 2) := by decide +kernel
theorem dX6_group_68 : decode cX6_group 68 = .ok (.iconst (-1), 1) := by decide +kernel
theorem dX6_group_69 : decode cX6_group 69 = .ok (.if_icmp .eq 19, 3) := by decide +kernel
theorem dX6_group_72 : decode cX6_group 72 = .ok (.iload_n 3, 1) := by decide +kernel
theorem dX6_group_73 : decode cX6_group 73 = .ok (.iconst (-1), 1) := by decide +kernel
theorem dX6_group_74 : decode cX6_group 74 = .ok (.if_icmp .eq 12, 3) := by decide +kernel
theorem dX6_group_77 : decode cX6_group 77 = .ok (.aload_n 0, 1) := by decide +kernel
theorem dX6_group_78 : decode cX6_group 78 = .ok (.iload 4, 2) := by decide +kernel
theorem dX6_group_80 : decode cX6_group 80 = .ok (.invokevirtual 94, 3) := by decide +kernel
theorem dX6_group_83 : decode cX6_group 83 = .ok (.ifCond .ne 5, 3) := by decide +kernel
theorem dX6_group_86 : decode cX6_group 86 = .ok (.iconst (-1), 1) := by decide +kernel
theorem dX6_group_87 : decode cX6_group 87 = .ok (.ireturn, 1) := by decide +kernel
theorem dX6_group_88 : decode cX6_group 88 = .ok (.aload_n 0, 1) := by decide +kernel
theorem dX6_group_89 : decode cX6_group 89 = .ok (.getfield 7, 3) := by decide +kernel
theorem dX6_group_92 : decode cX6_group 92 = .ok (.iload_n 2, 1) := by decide +kernel
theorem dX6_group_93 : decode cX6_group 93 = .ok (.iaload, 1) := by decide +kernel
theorem dX6_group_94 : decode cX6_group 94 = .ok (.istore 7, 2) := by decide +kernel
theorem dX6_group_96 : decode cX6_group 96 = .ok (.iload_n 3, 1) := by decide +kernel
theorem dX6_group_97 : decode cX6_group 97 = .ok (.iconst (-1), 1) := by decide +kernel
theorem dX6_group_98 : decode cX6_group 98 = .ok (.if_icmp .eq 34, 3) := by decide +kernel
theorem dX6_group_101 : decode cX6_group 101 = .ok (.aload_n 0, 1) := by decide +kernel
theorem dX6_group_102 : decode cX6_group 102 = .ok (.getfield 7, 3) := by decide +kernel
theorem dX6_group_105 : decode cX6_group 105 = .ok (.aload_n 0, 1) := by decide +kernel
theorem dX6_group_106 : decode cX6_group 106 = .ok (.getfield 22, 3) := by decide +kernel
theorem dX6_group_109 : decode cX6_group 109 = .ok (.iload_n 3, 1) := by decide +kernel
theorem dX6_group_110 : decode cX6_group 110 = .ok (.iaload, 1) := by decide +kernel
theorem dX6_group_111 : decode cX6_group 111 = .ok (.iaload, 1) := by decide +kernel
theorem dX6_group_112 : decode cX6_group 112 = .ok (.iload 7, 2) := by decide +kernel
theorem dX6_group_114 : decode cX6_group 114 = .ok (.if_icmp .eq 5, 3) := by decide +kernel
theorem dX6_group_117 : decode cX6_group 117 = .ok (.iconst (-1), 1) := by decide +kernel
theorem dX6_group_118 : decode cX6_group 118 = .ok (.ireturn, 1) := by decide +kernel
theorem dX6_group_119 : decode cX6_group 119 = .ok (.aload_n 0, 1) := by decide +kernel
theorem dX6_group_120 : decode cX6_group 120 = .ok (.getfield 7, 3) := by decide +kernel
theorem dX6_group_123 : decode cX6_group 123 = .ok (.aload_n 0, 1) := by decide +kernel
theorem dX6_group_124 : decode cX6_group 124 = .ok (.getfield 25, 3) := by decide +kernel
theorem dX6_group_127 : decode cX6_group 127 = .ok (.iload_n 3, 1) := by decide +kernel
theorem dX6_group_128 : decode cX6_group 128 = .ok (.iaload, 1) := by decide +kernel
theorem dX6_group_129 : decode cX6_group 129 = .ok (.iaload, 1) := by decide +kernel
theorem dX6_group_130 : decode cX6_group 130 = .ok (.istore 7, 2) := by decide +kernel
theorem dX6_group_132 : decode cX6_group 132 = .ok (.iload 4, 2) := by decide +kernel
theorem dX6_group_134 : decode cX6_group 134 = .ok (.iconst (-1), 1) := by decide +kernel
theorem dX6_group_135 : decode cX6_group 135 = .ok (.if_icmp .eq 36, 3) := by decide +kernel
theorem dX6_group_138 : decode cX6_group 138 = .ok (.aload_n 0, 1) := by decide +kernel
theorem dX6_group_139 : decode cX6_group 139 = .ok (.getfield 7, 3) := by decide +kernel
theorem dX6_group_142 : decode cX6_group 142 = .ok (.aload_n 0, 1) := by decide +kernel
theorem dX6_group_143 : decode cX6_group 143 = .ok (.getfield 22, 3) := by decide +kernel
theorem dX6_group_146 : decode cX6_group 146 = .ok (.iload 4, 2) := by decide +kernel
theorem dX6_group_148 : decode cX6_group 148 = .ok (.iaload, 1) := by decide +kernel
theorem dX6_group_149 : decode cX6_group 149 = .ok (.iaload, 1) := by decide +kernel
theorem dX6_group_150 : decode cX6_group 150 = .ok (.iload 7, 2) := by decide +kernel
theorem dX6_group_152 : decode cX6_group 152 = .ok (.if_icmp .eq 5, 3) := by decide +kernel
theorem dX6_group_155 : decode cX6_group 155 = .ok (.iconst (-1), 1) := by decide +kernel
theorem dX6_group_156 : decode cX6_group 156 = .ok (.ireturn, 1) := by decide +kernel
theorem dX6_group_157 : decode cX6_group 157 = .ok (.aload_n 0, 1) := by decide +kernel
theorem dX6_group_158 : decode cX6_group 158 = .ok (.getfield 7, 3) := by decide +kernel
theorem dX6_group_161 : decode cX6_group 161 = .ok (.aload_n 0, 1) := by decide +kernel
theorem dX6_group_162 : decode cX6_group 162 = .ok (.getfield 25, 3) := by decide +kernel
theorem dX6_group_165 : decode cX6_group 165 = .ok (.iload 4, 2) := by decide +kernel
theorem dX6_group_167 : decode cX6_group 167 = .ok (.iaload, 1) := by decide +kernel
theorem dX6_group_168 : decode cX6_group 168 = .ok (.iaload, 1) := by decide +kernel
theorem dX6_group_169 : decode cX6_group 169 = .ok (.istore 7, 2) := by decide +kernel
theorem dX6_group_171 : decode cX6_group 171 = .ok (.aload_n 0, 1) := by decide +kernel
theorem dX6_group_172 : decode cX6_group 172 = .ok (.getfield 7, 3) := by decide +kernel
theorem dX6_group_175 : decode cX6_group 175 = .ok (.iload 5, 2) := by decide +kernel
theorem dX6_group_177 : decode cX6_group 177 = .ok (.iaload, 1) := by decide +kernel
theorem dX6_group_178 : decode cX6_group 178 = .ok (.iload 7, 2) := by decide +kernel
theorem dX6_group_180 : decode cX6_group 180 = .ok (.if_icmp .eq 5, 3) := by decide +kernel
theorem dX6_group_183 : decode cX6_group 183 = .ok (.iconst (-1), 1) := by decide +kernel
theorem dX6_group_184 : decode cX6_group 184 = .ok (.ireturn, 1) := by decide +kernel
theorem dX6_group_185 : decode cX6_group 185 = .ok (.aload_n 0, 1) := by decide +kernel
theorem dX6_group_186 : decode cX6_group 186 = .ok (.getfield 38, 3) := by decide +kernel
theorem dX6_group_189 : decode cX6_group 189 = .ok (.aload_n 0, 1) := by decide +kernel
theorem dX6_group_190 : decode cX6_group 190 = .ok (.getfield 97, 3) := by decide +kernel
theorem dX6_group_193 : decode cX6_group 193 = .ok (.iload_n 1, 1) := by decide +kernel
theorem dX6_group_194 : decode cX6_group 194 = .ok (.iastore, 1) := by decide +kernel
theorem dX6_group_195 : decode cX6_group 195 = .ok (.aload_n 0, 1) := by decide +kernel
theorem dX6_group_196 : decode cX6_group 196 = .ok (.getfield 41, 3) := by decide +kernel
theorem dX6_group_199 : decode cX6_group 199 = .ok (.aload_n 0, 1) := by decide +kernel
theorem dX6_group_200 : decode cX6_group 200 = .ok (.getfield 97, 3) := by decide +kernel
theorem dX6_group_203 : decode cX6_group 203 = .ok (.iload_n 2, 1) := by decide +kernel
theorem dX6_group_204 : decode cX6_group 204 = .ok (.iastore, 1) := by decide +kernel
theorem dX6_group_205 : decode cX6_group 205 = .ok (.aload_n 0, 1) := by decide +kernel
theorem dX6_group_206 : decode cX6_group 206 = .ok (.getfield 44, 3) := by decide +kernel
theorem dX6_group_209 : decode cX6_group 209 = .ok (.aload_n 0, 1) := by decide +kernel
theorem dX6_group_210 : decode cX6_group 210 = .ok (.getfield 97, 3) := by decide +kernel
theorem dX6_group_213 : decode cX6_group 213 = .ok (.iload_n 3, 1) := by decide +kernel
theorem dX6_group_214 : decode cX6_group 214 = .ok (.iastore, 1) := by decide +kernel
theorem dX6_group_215 : decode cX6_group 215 = .ok (.aload_n 0, 1) := by decide +kernel
theorem dX6_group_216 : decode cX6_group 216 = .ok (.getfield 47, 3) := by decide +kernel
theorem dX6_group_219 : decode cX6_group 219 = .ok (.aload_n 0, 1) := by decide +kernel
theorem dX6_group_220 : decode cX6_group 220 = .ok (.getfield 97, 3) := by decide +kernel
theorem dX6_group_223 : decode cX6_group 223 = .ok (.iload 4, 2) := by decide +kernel
theorem dX6_group_225 : decode cX6_group 225 = .ok (.iastore, 1) := by decide +kernel
theorem dX6_group_226 : decode cX6_group 226 = .ok (.aload_n 0, 1) := by decide +kernel
theorem dX6_group_227 : decode cX6_group 227 = .ok (.getfield 50, 3) := by decide +kernel
theorem dX6_group_230 : decode cX6_group 230 = .ok (.aload_n 0, 1) := by decide +kernel
theorem dX6_group_231 : decode cX6_group 231 = .ok (.getfield 97, 3) := by decide +kernel
theorem dX6_group_234 : decode cX6_group 234 = .ok (.iload 5, 2) := by decide +kernel
theorem dX6_group_236 : decode cX6_group 236 = .ok (.iastore, 1) := by decide +kernel
theorem dX6_group_237 : decode cX6_group 237 = .ok (.aload_n 0, 1) := by decide +kernel
theorem dX6_group_238 : decode cX6_group 238 = .ok (.getfield 53, 3) := by decide +kernel
theorem dX6_group_241 : decode cX6_group 241 = .ok (.aload_n 0, 1) := by decide +kernel
theorem dX6_group_242 : decode cX6_group 242 = .ok (.getfield 97, 3) := by decide +kernel
theorem dX6_group_245 : decode cX6_group 245 = .ok (.iload 6, 2) := by decide +kernel
theorem dX6_group_247 : decode cX6_group 247 = .ok (.iastore, 1) := by decide +kernel
theorem dX6_group_248 : decode cX6_group 248 = .ok (.aload_n 0, 1) := by decide +kernel
theorem dX6_group_249 : decode cX6_group 249 = .ok (.aload_n 0, 1) := by decide +kernel
theorem dX6_group_250 : decode cX6_group 250 = .ok (.getfield 97, 3) := by decide +kernel
theorem dX6_group_253 : decode cX6_group 253 = .ok (.iconst 1, 1) := by decide +kernel
theorem dX6_group_254 : decode cX6_group 254 = .ok (.iadd, 1) := by decide +kernel
theorem dX6_group_255 : decode cX6_group 255 = .ok (.putfield 97, 3) := by decide +kernel
theorem dX6_group_258 : decode cX6_group 258 = .ok (.aload_n 0, 1) := by decide +kernel
theorem dX6_group_259 : decode cX6_group 259 = .ok (.getfield 97, 3) := by decide +kernel
theorem dX6_group_262 : decode cX6_group 262 = .ok (.iconst 1, 1) := by decide +kernel
theorem dX6_group_263 : decode cX6_group 263 = .ok (.isub, 1) := by decide +kernel
theorem dX6_group_264 : decode cX6_group 264 = .ok (.ireturn, 1) := by decide +kernel
set_option maxRecDepth 20000 in
theorem ggX6_spreads_X6_areThere : GoodIn wsX6_spreads wsX6_areThere := goodIn_r _ [14, 7, 9, 15, 16, 17, 13, 18, 19, 20, 21, 22, 23, 24, 25, 26, 27, 28, 29, 30, 31, 32, 33, 34, 35, 36, 37, 38, 39, 40, 41, 42, 43, 44, 45, 46] (by decide +kernel) (by decide +kernel)
set_option maxRecDepth 20000 in
theorem gX6_spreads_X6_areThere : GoodIn wsX6_spreads (wsV RX6 100 RX6 yX6_areThere wsX6_areThere) := goodIn_app (goodIn_of _ (by decide +kernel)) ggX6_spreads_X6_areThere
theorem dX6_spreads_0 : decode cX6_spreads 0 = .ok (.iconst 0, 1) := by decide +kernel
theorem dX6_spreads_1 : decode cX6_spreads 1 = .ok (.istore_n 1, 1) := by decide +kernel
theorem dX6_spreads_2 : decode cX6_spreads 2 = .ok (.iload_n 1, 1) := by decide +kernel
theorem dX6_spreads_3 : decode cX6_spreads 3 = .ok (.aload_n 0, 1) := by decide +kernel
theorem dX6_spreads_4 : decode cX6_spreads 4 = .ok (.getfield 77, 3) := by decide +kernel
theorem dX6_spreads_7 : decode cX6_spreads 7 = .ok (.if_icmp .ge 28, 3) := by decide +kernel
theorem dX6_spreads_10 : decode cX6_spreads 10 = .ok (.aload_n 0, 1) := by decide +kernel
theorem dX6_spreads_11 : decode cX6_spreads 11 = .ok (.getfield 56, 3) := by decide +kernel
theorem dX6_spreads_14 : decode cX6_spreads 14 = .ok (.iload_n 1, 1) := by decide +kernel
theorem dX6_spreads_15 : decode cX6_spreads 15 = .ok (.aload_n 0, 1) := by decide +kernel
theorem dX6_spreads_16 : decode cX6_spreads 16 = .ok (.getfield 13, 3) := by decide +kernel
theorem dX6_spreads_19 : decode cX6_spreads 19 = .ok (.iload_n 1, 1) := by decide +kernel
theorem dX6_spreads_20 : decode cX6_spreads 20 = .ok (.iaload, 1) := by decide +kernel
theorem dX6_spreads_21 : decode cX6_spreads 21 = .ok (.aload_n 0, 1) := by decide +kernel
theorem dX6_spreads_22 : decode cX6_spreads 22 = .ok (.getfield 16, 3) := by decide +kernel
theorem dX6_spreads_25 : decode cX6_spreads 25 = .ok (.iload_n 1, 1) := by decide +kernel
theorem dX6_spreads_26 : decode cX6_spreads 26 = .ok (.iaload, 1) := by decide +kernel
theorem dX6_spreads_27 : decode cX6_spreads 27 = .ok (.iadd, 1) := by decide +kernel
theorem dX6_spreads_28 : decode cX6_spreads 28 = .ok (.iastore, 1) := by decide +kernel
theorem dX6_spreads_29 : decode cX6_spreads 29 = .ok (.iinc 1 1, 3) := by decide +kernel
theorem dX6_spreads_32 : decode cX6_spreads 32 = .ok (.goto (-30), 3) := by decide +kernel
theorem dX6_spreads_35 : decode cX6_spreads 35 = .ok (.iconst 0, 1) := by decide +kernel
theorem dX6_spreads_36 : decode cX6_spreads 36 = .ok (.istore_n 1, 1) := by decide +kernel
theorem dX6_spreads_37 : decode cX6_spreads 37 = .ok (.iload_n 1, 1) := by decide +kernel
theorem dX6_spreads_38 : decode cX6_spreads 38 = .ok (.aload_n 0, 1) := by decide +kernel
theorem dX6_spreads_39 : decode cX6_spreads 39 = .ok (.getfield 77, 3) := by decide +kernel
theorem dX6_spreads_42 : decode cX6_spreads 42 = .ok (.if_icmp .gt 107, 3) := by decide +kernel
theorem dX6_spreads_45 : decode cX6_spreads 45 = .ok (.iconst 0, 1) := by decide +kernel
theorem dX6_spreads_46 : decode cX6_spreads 46 = .ok (.istore_n 2, 1) := by decide +kernel
theorem dX6_spreads_47 : decode cX6_spreads 47 = .ok (.iconst 0, 1) := by decide +kernel
theorem dX6_spreads_48 : decode cX6_spreads 48 = .ok (.istore_n 3, 1) := by decide +kernel
theorem dX6_spreads_49 : decode cX6_spreads 49 = .ok (.iload_n 3, 1) := by decide +kernel
theorem dX6_spreads_50 : decode cX6_spreads 50 = .ok (.aload_n 0, 1) := by decide +kernel
theorem dX6_spreads_51 : decode cX6_spreads 51 = .ok (.getfield 81, 3) := by decide +kernel
theorem dX6_spreads_54 : decode cX6_spreads 54 = .ok (.if_icmp .ge 83, 3) := by decide +kernel
theorem dX6_spreads_57 : decode cX6_spreads 57 = .ok (.aload_n 0, 1) := by decide +kernel
theorem dX6_spreads_58 : decode cX6_spreads 58 = .ok (.getfield 31, 3) := by decide +kernel
theorem dX6_spreads_61 : decode cX6_spreads 61 = .ok (.iload_n 3, 1) := by decide +kernel
theorem dX6_spreads_62 : decode cX6_spreads 62 = .ok (.baload, 1) := by decide +kernel
theorem dX6_spreads_63 : decode cX6_spreads 63 = .ok (.ifCond .eq 68, 3) := by decide +kernel
theorem dX6_spreads_66 : decode cX6_spreads 66 = .ok (.aload_n 0, 1) := by decide +kernel
theorem dX6_spreads_67 : decode cX6_spreads 67 = .ok (.iload_n 3, 1) := by decide +kernel
theorem dX6_spreads_68 : decode cX6_spreads 68 = .ok (.invokevirtual 100, 3) := by decide +kernel
theorem dX6_spreads_71 : decode cX6_spreads 71 = .ok (.ifCond .ne 6, 3) := by decide +kernel
theorem dX6_spreads_74 : decode cX6_spreads 74 = .ok (.goto 57, 3) := by decide +kernel
theorem dX6_spreads_77 : decode cX6_spreads 77 = .ok (.aload_n 0, 1) := by decide +kernel
theorem dX6_spreads_78 : decode cX6_spreads 78 = .ok (.getfield 56, 3) := by decide +kernel
theorem dX6_spreads_81 : decode cX6_spreads 81 = .ok (.aload_n 0, 1) := by decide +kernel
theorem dX6_spreads_82 : decode cX6_spreads 82 = .ok (.getfield 22, 3) := by decide +kernel
theorem dX6_spreads_85 : decode cX6_spreads 85 = .ok (.iload_n 3, 1) := by decide +kernel
theorem dX6_spreads_86 : decode cX6_spreads 86 = .ok (.iaload, 1) := by decide +kernel
theorem dX6_spreads_87 : decode cX6_spreads 87 = .ok (.iaload, 1) := by decide +kernel
theorem dX6_spreads_88 : decode cX6_spreads 88 = .ok (.aload_n 0, 1) := by decide +kernel
theorem dX6_spreads_89 : decode cX6_spreads 89 = .ok (.getfield 28, 3) := by decide +kernel
theorem dX6_spreads_92 : decode cX6_spreads 92 = .ok (.iload_n 3, 1) := by decide +kernel
theorem dX6_spreads_93 : decode cX6_spreads 93 = .ok (.iaload, 1) := by decide +kernel
theorem dX6_spreads_94 : decode cX6_spreads 94 = .ok (.iadd, 1) := by decide +kernel
theorem dX6_spreads_95 : decode cX6_spreads 95 = .ok (.istore 4, 2) := by decide +kernel
theorem dX6_spreads_97 : decode cX6_spreads 97 = .ok (.iload 4, 2) := by decide +kernel
theorem dX6_spreads_99 : decode cX6_spreads 99 = .ok (.aload_n 0, 1) := by decide +kernel
theorem dX6_spreads_100 : decode cX6_spreads 100 = .ok (.getfield 56, 3) := by decide +kernel
theorem dX6_spreads_103 : decode cX6_spreads 103 = .ok (.aload_n 0, 1) := by decide +kernel
theorem dX6_spreads_104 : decode cX6_spreads 104 = .ok (.getfield 25, 3) := by decide +kernel
theorem dX6_spreads_107 : decode cX6_spreads 107 = .ok (.iload_n 3, 1) := by decide +kernel
theorem dX6_spreads_108 : decode cX6_spreads 108 = .ok (.iaload, 1) := by decide +kernel
theorem dX6_spreads_109 : decode cX6_spreads 109 = .ok (.iaload, 1) := by decide +kernel
theorem dX6_spreads_110 : decode cX6_spreads 110 = .ok (.if_icmp .gt 6, 3) := by decide +kernel
theorem dX6_spreads_113 : decode cX6_spreads 113 = .ok (.goto 18, 3) := by decide +kernel
theorem dX6_spreads_116 : decode cX6_spreads 116 = .ok (.aload_n 0, 1) := by decide +kernel
theorem dX6_spreads_117 : decode cX6_spreads 117 = .ok (.getfield 56, 3) := by decide +kernel
theorem dX6_spreads_120 : decode cX6_spreads 120 = .ok (.aload_n 0, 1) := by decide +kernel
theorem dX6_spreads_121 : decode cX6_spreads 121 = .ok (.getfield 25, 3) := by decide +kernel
theorem dX6_spreads_124 : decode cX6_spreads 124 = .ok (.iload_n 3, 1) := by decide +kernel
theorem dX6_spreads_125 : decode cX6_spreads 125 = .ok (.iaload, 1) := by decide +kernel
theorem dX6_spreads_126 : decode cX6_spreads 126 = .ok (.iload 4, 2) := by decide +kernel
theorem dX6_spreads_128 : decode cX6_spreads 128 = .ok (.iastore, 1) := by decide +kernel
theorem dX6_spreads_129 : decode cX6_spreads 129 = .ok (.iconst 1, 1) := by decide +kernel
theorem dX6_spreads_130 : decode cX6_spreads 130 = .ok (.istore_n 2, 1) := by decide +kernel
theorem dX6_spreads_131 : decode cX6_spreads 131 = .ok (.iinc 3 1, 3) := by decide +kernel
theorem dX6_spreads_134 : decode cX6_spreads 134 = .ok (.goto (-85), 3) := by decide +kernel
theorem dX6_spreads_137 : decode cX6_spreads 137 = .ok (.iload_n 2, 1) := by decide +kernel
theorem dX6_spreads_138 : decode cX6_spreads 138 = .ok (.ifCond .ne 5, 3) := by decide +kernel
theorem dX6_spreads_141 : decode cX6_spreads 141 = .ok (.iconst 1, 1) := by decide +kernel
theorem dX6_spreads_142 : decode cX6_spreads 142 = .ok (.ireturn, 1) := by decide +kernel
theorem dX6_spreads_143 : decode cX6_spreads 143 = .ok (.iinc 1 1, 3) := by decide +kernel
theorem dX6_spreads_146 : decode cX6_spreads 146 = .ok (.goto (-109), 3) := by decide +kernel
theorem dX6_spreads_149 : decode cX6_spreads 149 = .ok (.iconst 0, 1) := by decide +kernel
theorem dX6_spreads_150 : decode cX6_spreads 150 = .ok (.ireturn, 1) := by decide +kernel
theorem dX6_late_0 : decode cX6_late 0 = .ok (.aload_n 0, 1) := by decide +kernel
theorem dX6_late_1 : decode cX6_late 1 = .ok (.getfield 56, 3) := by decide +kernel
theorem dX6_late_4 : decode cX6_late 4 = .ok (.iload_n 1, 1) := by decide +kernel
theorem dX6_late_5 : decode cX6_late 5 = .ok (.iaload, 1) := by decide +kernel
theorem dX6_late_6 : decode cX6_late 6 = .ok (.aload_n 0, 1) := by decide +kernel
theorem dX6_late_7 : decode cX6_late 7 = .ok (.getfield 13, 3) := by decide +kernel
theorem dX6_late_10 : decode cX6_late 10 = .ok (.iload_n 1, 1) := by decide +kernel
theorem dX6_late_11 : decode cX6_late 11 = .ok (.iaload, 1) := by decide +kernel
theorem dX6_late_12 : decode cX6_late 12 = .ok (.isub, 1) := by decide +kernel
theorem dX6_late_13 : decode cX6_late 13 = .ok (.ireturn, 1) := by decide +kernel
set_option maxRecDepth 20000 in
theorem ggX6_binds_X6_areThere : GoodIn wsX6_binds wsX6_areThere := goodIn_r _ [11, 4, 2, 12, 13, 14, 10, 15, 16, 17, 23, 24, 25, 26, 27, 28, 29, 30, 31, 32, 33, 34, 35, 36, 37, 38, 39, 40, 41, 42, 43, 44, 45, 46, 47, 48] (by decide +kernel) (by decide +kernel)
set_option maxRecDepth 20000 in
theorem gX6_binds_X6_areThere : GoodIn wsX6_binds (wsV RX6 100 RX6 yX6_areThere wsX6_areThere) := goodIn_app (goodIn_of _ (by decide +kernel)) ggX6_binds_X6_areThere
set_option maxRecDepth 20000 in
theorem ggX6_binds_X6_late : GoodIn wsX6_binds wsX6_late := goodIn_r _ [21, 3, 22, 23, 24, 25, 26, 27, 28, 29, 30, 31, 32, 33, 34, 35, 36, 37, 38, 39, 40, 41, 42, 43, 44, 45, 46, 47, 48] (by decide +kernel) (by decide +kernel)
set_option maxRecDepth 20000 in
theorem gX6_binds_X6_late : GoodIn wsX6_binds (wsV RX6 103 RX6 yX6_late wsX6_late) := goodIn_app (goodIn_of _ (by decide +kernel)) ggX6_binds_X6_late
theorem dX6_binds_0 : decode cX6_binds 0 = .ok (.aload_n 0, 1) := by decide +kernel
theorem dX6_binds_1 : decode cX6_binds 1 = .ok (.getfield 31, 3) := by decide +kernel
theorem dX6_binds_4 : decode cX6_binds 4 = .ok (.iload_n 1, 1) := by decide +kernel
theorem dX6_binds_5 : decode cX6_binds 5 = .ok (.baload, 1) := by decide +kernel
theorem dX6_binds_6 : decode cX6_binds 6 = .ok (.ifCond .eq 11, 3) := by decide +kernel
theorem dX6_binds_9 : decode cX6_binds 9 = .ok (.aload_n 0, 1) := by decide +kernel
theorem dX6_binds_10 : decode cX6_binds 10 = .ok (.iload_n 1, 1) := by decide +kernel
theorem dX6_binds_11 : decode cX6_binds 11 = .ok (.invokevirtual 100, 3) := by decide +kernel
theorem dX6_binds_14 : decode cX6_binds 14 = .ok (.ifCond .ne 5, 3) := by decide +kernel
theorem dX6_binds_17 : decode cX6_binds 17 = .ok (.iconst 0, 1) := by decide +kernel
theorem dX6_binds_18 : decode cX6_binds 18 = .ok (.ireturn, 1) := by decide +kernel
theorem dX6_binds_19 : decode cX6_binds 19 = .ok (.aload_n 0, 1) := by decide +kernel
theorem dX6_binds_20 : decode cX6_binds 20 = .ok (.getfield 25, 3) := by decide +kernel
theorem dX6_binds_23 : decode cX6_binds 23 = .ok (.iload_n 1, 1) := by decide +kernel
theorem dX6_binds_24 : decode cX6_binds 24 = .ok (.iaload, 1) := by decide +kernel
theorem dX6_binds_25 : decode cX6_binds 25 = .ok (.istore_n 2, 1) := by decide +kernel
theorem dX6_binds_26 : decode cX6_binds 26 = .ok (.aload_n 0, 1) := by decide +kernel
theorem dX6_binds_27 : decode cX6_binds 27 = .ok (.getfield 56, 3) := by decide +kernel
theorem dX6_binds_30 : decode cX6_binds 30 = .ok (.iload_n 2, 1) := by decide +kernel
theorem dX6_binds_31 : decode cX6_binds 31 = .ok (.iaload, 1) := by decide +kernel
theorem dX6_binds_32 : decode cX6_binds 32 = .ok (.aload_n 0, 1) := by decide +kernel
theorem dX6_binds_33 : decode cX6_binds 33 = .ok (.getfield 56, 3) := by decide +kernel
theorem dX6_binds_36 : decode cX6_binds 36 = .ok (.aload_n 0, 1) := by decide +kernel
theorem dX6_binds_37 : decode cX6_binds 37 = .ok (.getfield 22, 3) := by decide +kernel
theorem dX6_binds_40 : decode cX6_binds 40 = .ok (.iload_n 1, 1) := by decide +kernel
theorem dX6_binds_41 : decode cX6_binds 41 = .ok (.iaload, 1) := by decide +kernel
theorem dX6_binds_42 : decode cX6_binds 42 = .ok (.iaload, 1) := by decide +kernel
theorem dX6_binds_43 : decode cX6_binds 43 = .ok (.aload_n 0, 1) := by decide +kernel
theorem dX6_binds_44 : decode cX6_binds 44 = .ok (.getfield 28, 3) := by decide +kernel
theorem dX6_binds_47 : decode cX6_binds 47 = .ok (.iload_n 1, 1) := by decide +kernel
theorem dX6_binds_48 : decode cX6_binds 48 = .ok (.iaload, 1) := by decide +kernel
theorem dX6_binds_49 : decode cX6_binds 49 = .ok (.iadd, 1) := by decide +kernel
theorem dX6_binds_50 : decode cX6_binds 50 = .ok (.if_icmp .ne 29, 3) := by decide +kernel
theorem dX6_binds_53 : decode cX6_binds 53 = .ok (.aload_n 0, 1) := by decide +kernel
theorem dX6_binds_54 : decode cX6_binds 54 = .ok (.iload_n 2, 1) := by decide +kernel
theorem dX6_binds_55 : decode cX6_binds 55 = .ok (.invokevirtual 103, 3) := by decide +kernel
theorem dX6_binds_58 : decode cX6_binds 58 = .ok (.ifCond .le 21, 3) := by decide +kernel
theorem dX6_binds_61 : decode cX6_binds 61 = .ok (.aload_n 0, 1) := by decide +kernel
theorem dX6_binds_62 : decode cX6_binds 62 = .ok (.iload_n 2, 1) := by decide +kernel
theorem dX6_binds_63 : decode cX6_binds 63 = .ok (.invokevirtual 103, 3) := by decide +kernel
theorem dX6_binds_66 : decode cX6_binds 66 = .ok (.aload_n 0, 1) := by decide +kernel
theorem dX6_binds_67 : decode cX6_binds 67 = .ok (.getfield 16, 3) := by decide +kernel
theorem dX6_binds_70 : decode cX6_binds 70 = .ok (.iload_n 2, 1) := by decide +kernel
theorem dX6_binds_71 : decode cX6_binds 71 = .ok (.iaload, 1) := by decide +kernel
theorem dX6_binds_72 : decode cX6_binds 72 = .ok (.if_icmp .le 7, 3) := by decide +kernel
theorem dX6_binds_75 : decode cX6_binds 75 = .ok (.iconst 1, 1) := by decide +kernel
theorem dX6_binds_76 : decode cX6_binds 76 = .ok (.goto 4, 3) := by decide +kernel
theorem dX6_binds_79 : decode cX6_binds 79 = .ok (.iconst 0, 1) := by decide +kernel
theorem dX6_binds_80 : decode cX6_binds 80 = .ok (.ireturn, 1) := by decide +kernel
set_option maxRecDepth 20000 in
theorem ggX6_causeOf_X6_binds : GoodIn wsX6_causeOf wsX6_binds := goodIn_r _ [8, 9, 2, 10, 3, 11, 12, 13, 14, 15, 7, 16, 17, 18, 19, 20, 21, 22, 23, 24, 25, 26, 27, 28, 29, 30, 31, 32, 33, 34, 35, 36, 37, 38, 39, 40, 41, 42, 43, 44, 45, 46, 47, 48, 49, 50, 51, 52, 53] (by decide +kernel) (by decide +kernel)
set_option maxRecDepth 20000 in
theorem gX6_causeOf_X6_binds : GoodIn wsX6_causeOf (wsV RX6 107 RX6 yX6_binds wsX6_binds) := goodIn_app (goodIn_of _ (by decide +kernel)) ggX6_causeOf_X6_binds
set_option maxRecDepth 20000 in
theorem ggX6_causeOf_X6_late : GoodIn wsX6_causeOf wsX6_late := goodIn_r _ [26, 10, 27, 28, 29, 30, 31, 32, 33, 34, 35, 36, 37, 38, 39, 40, 41, 42, 43, 44, 45, 46, 47, 48, 49, 50, 51, 52, 53] (by decide +kernel) (by decide +kernel)
set_option maxRecDepth 20000 in
theorem gX6_causeOf_X6_late : GoodIn wsX6_causeOf (wsV RX6 103 RX6 yX6_late wsX6_late) := goodIn_app (goodIn_of _ (by decide +kernel)) ggX6_causeOf_X6_late
theorem dX6_causeOf_0 : decode cX6_causeOf 0 = .ok (.iconst 0, 1) := by decide +kernel
theorem dX6_causeOf_1 : decode cX6_causeOf 1 = .ok (.istore_n 2, 1) := by decide +kernel
theorem dX6_causeOf_2 : decode cX6_causeOf 2 = .ok (.iload_n 2, 1) := by decide +kernel
theorem dX6_causeOf_3 : decode cX6_causeOf 3 = .ok (.aload_n 0, 1) := by decide +kernel
theorem dX6_causeOf_4 : decode cX6_causeOf 4 = .ok (.getfield 81, 3) := by decide +kernel
theorem dX6_causeOf_7 : decode cX6_causeOf 7 = .ok (.if_icmp .ge 42, 3) := by decide +kernel
theorem dX6_causeOf_10 : decode cX6_causeOf 10 = .ok (.aload_n 0, 1) := by decide +kernel
theorem dX6_causeOf_11 : decode cX6_causeOf 11 = .ok (.getfield 25, 3) := by decide +kernel
theorem dX6_causeOf_14 : decode cX6_causeOf 14 = .ok (.iload_n 2, 1) := by decide +kernel
theorem dX6_causeOf_15 : decode cX6_causeOf 15 = .ok (.iaload, 1) := by decide +kernel
theorem dX6_causeOf_16 : decode cX6_causeOf 16 = .ok (.iload_n 1, 1) := by decide +kernel
theorem dX6_causeOf_17 : decode cX6_causeOf 17 = .ok (.if_icmp .ne 26, 3) := by decide +kernel
theorem dX6_causeOf_20 : decode cX6_causeOf 20 = .ok (.aload_n 0, 1) := by decide +kernel
theorem dX6_causeOf_21 : decode cX6_causeOf 21 = .ok (.iload_n 2, 1) := by decide +kernel
theorem dX6_causeOf_22 : decode cX6_causeOf 22 = .ok (.invokevirtual 107, 3) := by decide +kernel
theorem dX6_causeOf_25 : decode cX6_causeOf 25 = .ok (.ifCond .eq 18, 3) := by decide +kernel
theorem dX6_causeOf_28 : decode cX6_causeOf 28 = .ok (.aload_n 0, 1) := by decide +kernel
theorem dX6_causeOf_29 : decode cX6_causeOf 29 = .ok (.aload_n 0, 1) := by decide +kernel
theorem dX6_causeOf_30 : decode cX6_causeOf 30 = .ok (.getfield 22, 3) := by decide +kernel
theorem dX6_causeOf_33 : decode cX6_causeOf 33 = .ok (.iload_n 2, 1) := by decide +kernel
theorem dX6_causeOf_34 : decode cX6_causeOf 34 = .ok (.iaload, 1) := by decide +kernel
theorem dX6_causeOf_35 : decode cX6_causeOf 35 = .ok (.invokevirtual 103, 3) := by decide +kernel
theorem dX6_causeOf_38 : decode cX6_causeOf 38 = .ok (.ifCond .le 5, 3) := by decide +kernel
theorem dX6_causeOf_41 : decode cX6_causeOf 41 = .ok (.iload_n 2, 1) := by decide +kernel
theorem dX6_causeOf_42 : decode cX6_causeOf 42 = .ok (.ireturn, 1) := by decide +kernel
theorem dX6_causeOf_43 : decode cX6_causeOf 43 = .ok (.iinc 2 1, 3) := by decide +kernel
theorem dX6_causeOf_46 : decode cX6_causeOf 46 = .ok (.goto (-44), 3) := by decide +kernel
theorem dX6_causeOf_49 : decode cX6_causeOf 49 = .ok (.iconst (-1), 1) := by decide +kernel
theorem dX6_causeOf_50 : decode cX6_causeOf 50 = .ok (.ireturn, 1) := by decide +kernel
set_option maxRecDepth 20000 in
theorem ggX6_spread_X6_spreads : GoodIn wsX6_spread wsX6_spreads := goodIn_r _ [5, 6, 7, 8, 9, 10, 11, 12, 13, 14, 15, 16, 17, 4, 18, 19, 20, 21, 22, 23, 24, 25, 26, 27, 28, 29, 30, 31, 32, 33, 34, 35, 36, 37, 38, 39, 40, 41, 42, 43, 44, 45, 46, 47, 48, 49, 50] (by decide +kernel) (by decide +kernel)
set_option maxRecDepth 20000 in
theorem gX6_spread_X6_spreads : GoodIn wsX6_spread (wsV RX6 110 RX6 yX6_spreads wsX6_spreads) := goodIn_app (goodIn_of _ (by decide +kernel)) ggX6_spread_X6_spreads
theorem dX6_spread_0 : decode cX6_spread 0 = .ok (.aload_n 0, 1) := by decide +kernel
theorem dX6_spread_1 : decode cX6_spread 1 = .ok (.invokevirtual 110, 3) := by decide +kernel
theorem dX6_spread_4 : decode cX6_spread 4 = .ok (.ifCond .eq 7, 3) := by decide +kernel
theorem dX6_spread_7 : decode cX6_spread 7 = .ok (.iconst 1, 1) := by decide +kernel
theorem dX6_spread_8 : decode cX6_spread 8 = .ok (.goto 4, 3) := by decide +kernel
theorem dX6_spread_11 : decode cX6_spread 11 = .ok (.iconst 0, 1) := by decide +kernel
theorem dX6_spread_12 : decode cX6_spread 12 = .ok (.ireturn, 1) := by decide +kernel
set_option maxRecDepth 20000 in
theorem ggX6_of_X6_isEvent : GoodIn wsX6_of wsX6_isEvent := goodIn_r _ [9, 10, 33, 34, 35, 36, 37, 38, 39, 40, 41, 42, 43, 44, 45, 46, 47, 48, 49, 50, 51, 52, 53, 54, 55, 56, 57, 58] (by decide +kernel) (by decide +kernel)
set_option maxRecDepth 20000 in
theorem gX6_of_X6_isEvent : GoodIn wsX6_of (wsV RX6 91 RX6 yX6_isEvent wsX6_isEvent) := goodIn_app (goodIn_of _ (by decide +kernel)) ggX6_of_X6_isEvent
set_option maxRecDepth 20000 in
theorem ggX6_of_X6_spreads : GoodIn wsX6_of wsX6_spreads := goodIn_r _ [14, 10, 1, 2, 3, 15, 16, 17, 18, 19, 20, 21, 22, 8, 23, 24, 25, 26, 27, 28, 4, 33, 34, 35, 36, 37, 38, 39, 40, 41, 42, 43, 44, 45, 46, 47, 48, 49, 50, 51, 52, 53, 54, 55, 56, 57, 58] (by decide +kernel) (by decide +kernel)
set_option maxRecDepth 20000 in
theorem gX6_of_X6_spreads : GoodIn wsX6_of (wsV RX6 110 RX6 yX6_spreads wsX6_spreads) := goodIn_app (goodIn_of _ (by decide +kernel)) ggX6_of_X6_spreads
set_option maxRecDepth 20000 in
theorem ggX6_of_X6_isThere : GoodIn wsX6_of wsX6_isThere := goodIn_r _ [27, 28, 4, 33, 34, 35, 36, 37, 38, 39, 40, 41, 42, 43, 44, 45, 46, 47, 48, 49, 50, 51, 52, 53, 54, 55, 56, 57, 58] (by decide +kernel) (by decide +kernel)
set_option maxRecDepth 20000 in
theorem gX6_of_X6_isThere : GoodIn wsX6_of (wsV RX6 88 RX6 yX6_isThere wsX6_isThere) := goodIn_app (goodIn_of _ (by decide +kernel)) ggX6_of_X6_isThere
set_option maxRecDepth 20000 in
theorem ggX6_of_X6_late : GoodIn wsX6_of wsX6_late := goodIn_r _ [32, 1, 2, 33, 34, 35, 36, 37, 38, 39, 40, 41, 42, 43, 44, 45, 46, 47, 48, 49, 50, 51, 52, 53, 54, 55, 56, 57, 58] (by decide +kernel) (by decide +kernel)
set_option maxRecDepth 20000 in
theorem gX6_of_X6_late : GoodIn wsX6_of (wsV RX6 103 RX6 yX6_late wsX6_late) := goodIn_app (goodIn_of _ (by decide +kernel)) ggX6_of_X6_late
theorem dX6_of_0 : decode cX6_of 0 = .ok (.aload_n 0, 1) := by decide +kernel
theorem dX6_of_1 : decode cX6_of 1 = .ok (.iload_n 1, 1) := by decide +kernel
theorem dX6_of_2 : decode cX6_of 2 = .ok (.invokevirtual 91, 3) := by decide +kernel
theorem dX6_of_5 : decode cX6_of 5 = .ok (.ifCond .ne 5, 3) := by decide +kernel
theorem dX6_of_8 : decode cX6_of 8 = .ok (.iconst (-1), 1) := by decide +kernel
theorem dX6_of_9 : decode cX6_of 9 = .ok (.ireturn, 1) := by decide +kernel
theorem dX6_of_10 : decode cX6_of 10 = .ok (.iload_n 2, 1) := by decide +kernel
theorem dX6_of_11 : decode cX6_of 11 = .ok (.tableswitch 105 0 4 #[33, 59, 84, 91, 98], 33) := by decide +kernel
theorem dX6_of_44 : decode cX6_of 44 = .ok (.aload_n 0, 1) := by decide +kernel
theorem dX6_of_45 : decode cX6_of 45 = .ok (.invokevirtual 110, 3) := by decide +kernel
theorem dX6_of_48 : decode cX6_of 48 = .ok (.ifCond .eq 20, 3) := by decide +kernel
theorem dX6_of_51 : decode cX6_of 51 = .ok (.aload_n 0, 1) := by decide +kernel
theorem dX6_of_52 : decode cX6_of 52 = .ok (.iload_n 1, 1) := by decide +kernel
theorem dX6_of_53 : decode cX6_of 53 = .ok (.invokevirtual 88, 3) := by decide +kernel
theorem dX6_of_56 : decode cX6_of 56 = .ok (.ifCond .eq 12, 3) := by decide +kernel
theorem dX6_of_59 : decode cX6_of 59 = .ok (.aload_n 0, 1) := by decide +kernel
theorem dX6_of_60 : decode cX6_of 60 = .ok (.getfield 56, 3) := by decide +kernel
theorem dX6_of_63 : decode cX6_of 63 = .ok (.iload_n 1, 1) := by decide +kernel
theorem dX6_of_64 : decode cX6_of 64 = .ok (.iaload, 1) := by decide +kernel
theorem dX6_of_65 : decode cX6_of 65 = .ok (.goto 4, 3) := by decide +kernel
theorem dX6_of_68 : decode cX6_of 68 = .ok (.iconst (-1), 1) := by decide +kernel
theorem dX6_of_69 : decode cX6_of 69 = .ok (.ireturn, 1) := by decide +kernel
theorem dX6_of_70 : decode cX6_of 70 = .ok (.aload_n 0, 1) := by decide +kernel
theorem dX6_of_71 : decode cX6_of 71 = .ok (.invokevirtual 110, 3) := by decide +kernel
theorem dX6_of_74 : decode cX6_of 74 = .ok (.ifCond .eq 19, 3) := by decide +kernel
theorem dX6_of_77 : decode cX6_of 77 = .ok (.aload_n 0, 1) := by decide +kernel
theorem dX6_of_78 : decode cX6_of 78 = .ok (.iload_n 1, 1) := by decide +kernel
theorem dX6_of_79 : decode cX6_of 79 = .ok (.invokevirtual 88, 3) := by decide +kernel
theorem dX6_of_82 : decode cX6_of 82 = .ok (.ifCond .eq 11, 3) := by decide +kernel
theorem dX6_of_85 : decode cX6_of 85 = .ok (.aload_n 0, 1) := by decide +kernel
theorem dX6_of_86 : decode cX6_of 86 = .ok (.iload_n 1, 1) := by decide +kernel
theorem dX6_of_87 : decode cX6_of 87 = .ok (.invokevirtual 103, 3) := by decide +kernel
theorem dX6_of_90 : decode cX6_of 90 = .ok (.goto 4, 3) := by decide +kernel
theorem dX6_of_93 : decode cX6_of 93 = .ok (.iconst (-1), 1) := by decide +kernel
theorem dX6_of_94 : decode cX6_of 94 = .ok (.ireturn, 1) := by decide +kernel
theorem dX6_of_95 : decode cX6_of 95 = .ok (.aload_n 0, 1) := by decide +kernel
theorem dX6_of_96 : decode cX6_of 96 = .ok (.getfield 13, 3) := by decide +kernel
theorem dX6_of_99 : decode cX6_of 99 = .ok (.iload_n 1, 1) := by decide +kernel
theorem dX6_of_100 : decode cX6_of 100 = .ok (.iaload, 1) := by decide +kernel
theorem dX6_of_101 : decode cX6_of 101 = .ok (.ireturn, 1) := by decide +kernel
theorem dX6_of_102 : decode cX6_of 102 = .ok (.aload_n 0, 1) := by decide +kernel
theorem dX6_of_103 : decode cX6_of 103 = .ok (.getfield 16, 3) := by decide +kernel
theorem dX6_of_106 : decode cX6_of 106 = .ok (.iload_n 1, 1) := by decide +kernel
theorem dX6_of_107 : decode cX6_of 107 = .ok (.iaload, 1) := by decide +kernel
theorem dX6_of_108 : decode cX6_of 108 = .ok (.ireturn, 1) := by decide +kernel
theorem dX6_of_109 : decode cX6_of 109 = .ok (.aload_n 0, 1) := by decide +kernel
theorem dX6_of_110 : decode cX6_of 110 = .ok (.getfield 7, 3) := by decide +kernel
theorem dX6_of_113 : decode cX6_of 113 = .ok (.iload_n 1, 1) := by decide +kernel
theorem dX6_of_114 : decode cX6_of 114 = .ok (.iaload, 1) := by decide +kernel
theorem dX6_of_115 : decode cX6_of 115 = .ok (.ireturn, 1) := by decide +kernel
theorem dX6_of_116 : decode cX6_of 116 = .ok (.iconst (-1), 1) := by decide +kernel
theorem dX6_of_117 : decode cX6_of 117 = .ok (.ireturn, 1) := by decide +kernel
set_option maxRecDepth 20000 in
theorem ggX6_look_X6_isActivity : GoodIn wsX6_look wsX6_isActivity := goodIn_r _ [11, 12, 38, 39, 40, 41, 42, 43, 44, 45, 46, 47, 48, 49, 50, 51, 52, 53, 54, 55, 56, 57, 58, 59, 60, 61, 62, 63] (by decide +kernel) (by decide +kernel)
set_option maxRecDepth 20000 in
theorem gX6_look_X6_isActivity : GoodIn wsX6_look (wsV RX6 84 RX6 yX6_isActivity wsX6_isActivity) := goodIn_app (goodIn_of _ (by decide +kernel)) ggX6_look_X6_isActivity
set_option maxRecDepth 20000 in
theorem ggX6_look_X6_spreads : GoodIn wsX6_look wsX6_spreads := goodIn_r _ [16, 17, 18, 6, 19, 12, 5, 2, 4, 3, 20, 21, 22, 10, 23, 24, 25, 26, 27, 28, 29, 38, 39, 40, 41, 42, 43, 44, 45, 46, 47, 48, 49, 50, 51, 52, 53, 54, 55, 56, 57, 58, 59, 60, 61, 62, 63] (by decide +kernel) (by decide +kernel)
set_option maxRecDepth 20000 in
theorem gX6_look_X6_spreads : GoodIn wsX6_look (wsV RX6 110 RX6 yX6_spreads wsX6_spreads) := goodIn_app (goodIn_of _ (by decide +kernel)) ggX6_look_X6_spreads
set_option maxRecDepth 20000 in
theorem ggX6_look_X6_binds : GoodIn wsX6_look wsX6_binds := goodIn_r _ [33, 5, 3, 18, 2, 4, 19, 20, 21, 22, 10, 23, 24, 25, 26, 27, 28, 29, 34, 35, 36, 37, 6, 38, 39, 40, 41, 42, 43, 44, 45, 46, 47, 48, 49, 50, 51, 52, 53, 54, 55, 56, 57, 58, 59, 60, 61, 62, 63] (by decide +kernel) (by decide +kernel)
set_option maxRecDepth 20000 in
theorem gX6_look_X6_binds : GoodIn wsX6_look (wsV RX6 107 RX6 yX6_binds wsX6_binds) := goodIn_app (goodIn_of _ (by decide +kernel)) ggX6_look_X6_binds
theorem dX6_look_0 : decode cX6_look 0 = .ok (.aload_n 0, 1) := by decide +kernel
theorem dX6_look_1 : decode cX6_look 1 = .ok (.iload_n 1, 1) := by decide +kernel
theorem dX6_look_2 : decode cX6_look 2 = .ok (.invokevirtual 84, 3) := by decide +kernel
theorem dX6_look_5 : decode cX6_look 5 = .ok (.ifCond .ne 5, 3) := by decide +kernel
theorem dX6_look_8 : decode cX6_look 8 = .ok (.iconst (-1), 1) := by decide +kernel
theorem dX6_look_9 : decode cX6_look 9 = .ok (.ireturn, 1) := by decide +kernel
theorem dX6_look_10 : decode cX6_look 10 = .ok (.iload_n 2, 1) := by decide +kernel
theorem dX6_look_11 : decode cX6_look 11 = .ok (.tableswitch 136 0 6 #[41, 48, 55, 62, 69, 84, 105], 41) := by decide +kernel
theorem dX6_look_52 : decode cX6_look 52 = .ok (.aload_n 0, 1) := by decide +kernel
theorem dX6_look_53 : decode cX6_look 53 = .ok (.getfield 19, 3) := by decide +kernel
theorem dX6_look_56 : decode cX6_look 56 = .ok (.iload_n 1, 1) := by decide +kernel
theorem dX6_look_57 : decode cX6_look 57 = .ok (.iaload, 1) := by decide +kernel
theorem dX6_look_58 : decode cX6_look 58 = .ok (.ireturn, 1) := by decide +kernel
theorem dX6_look_59 : decode cX6_look 59 = .ok (.aload_n 0, 1) := by decide +kernel
theorem dX6_look_60 : decode cX6_look 60 = .ok (.getfield 22, 3) := by decide +kernel
theorem dX6_look_63 : decode cX6_look 63 = .ok (.iload_n 1, 1) := by decide +kernel
theorem dX6_look_64 : decode cX6_look 64 = .ok (.iaload, 1) := by decide +kernel
theorem dX6_look_65 : decode cX6_look 65 = .ok (.ireturn, 1) := by decide +kernel
theorem dX6_look_66 : decode cX6_look 66 = .ok (.aload_n 0, 1) := by decide +kernel
theorem dX6_look_67 : decode cX6_look 67 = .ok (.getfield 25, 3) := by decide +kernel
theorem dX6_look_70 : decode cX6_look 70 = .ok (.iload_n 1, 1) := by decide +kernel
theorem dX6_look_71 : decode cX6_look 71 = .ok (.iaload, 1) := by decide +kernel
theorem dX6_look_72 : decode cX6_look 72 = .ok (.ireturn, 1) := by decide +kernel
theorem dX6_look_73 : decode cX6_look 73 = .ok (.aload_n 0, 1) := by decide +kernel
theorem dX6_look_74 : decode cX6_look 74 = .ok (.getfield 28, 3) := by decide +kernel
theorem dX6_look_77 : decode cX6_look 77 = .ok (.iload_n 1, 1) := by decide +kernel
theorem dX6_look_78 : decode cX6_look 78 = .ok (.iaload, 1) := by decide +kernel
theorem dX6_look_79 : decode cX6_look 79 = .ok (.ireturn, 1) := by decide +kernel
theorem dX6_look_80 : decode cX6_look 80 = .ok (.aload_n 0, 1) := by decide +kernel
theorem dX6_look_81 : decode cX6_look 81 = .ok (.getfield 31, 3) := by decide +kernel
theorem dX6_look_84 : decode cX6_look 84 = .ok (.iload_n 1, 1) := by decide +kernel
theorem dX6_look_85 : decode cX6_look 85 = .ok (.baload, 1) := by decide +kernel
theorem dX6_look_86 : decode cX6_look 86 = .ok (.ifCond .eq 7, 3) := by decide +kernel
theorem dX6_look_89 : decode cX6_look 89 = .ok (.iconst 1, 1) := by decide +kernel
theorem dX6_look_90 : decode cX6_look 90 = .ok (.goto 4, 3) := by decide +kernel
theorem dX6_look_93 : decode cX6_look 93 = .ok (.iconst 0, 1) := by decide +kernel
theorem dX6_look_94 : decode cX6_look 94 = .ok (.ireturn, 1) := by decide +kernel
theorem dX6_look_95 : decode cX6_look 95 = .ok (.aload_n 0, 1) := by decide +kernel
theorem dX6_look_96 : decode cX6_look 96 = .ok (.invokevirtual 110, 3) := by decide +kernel
theorem dX6_look_99 : decode cX6_look 99 = .ok (.ifCond .eq 15, 3) := by decide +kernel
theorem dX6_look_102 : decode cX6_look 102 = .ok (.aload_n 0, 1) := by decide +kernel
theorem dX6_look_103 : decode cX6_look 103 = .ok (.iload_n 1, 1) := by decide +kernel
theorem dX6_look_104 : decode cX6_look 104 = .ok (.invokevirtual 107, 3) := by decide +kernel
theorem dX6_look_107 : decode cX6_look 107 = .ok (.ifCond .eq 7, 3) := by decide +kernel
theorem dX6_look_110 : decode cX6_look 110 = .ok (.iconst 1, 1) := by decide +kernel
theorem dX6_look_111 : decode cX6_look 111 = .ok (.goto 4, 3) := by decide +kernel
theorem dX6_look_114 : decode cX6_look 114 = .ok (.iconst 0, 1) := by decide +kernel
theorem dX6_look_115 : decode cX6_look 115 = .ok (.ireturn, 1) := by decide +kernel
theorem dX6_look_116 : decode cX6_look 116 = .ok (.aload_n 0, 1) := by decide +kernel
theorem dX6_look_117 : decode cX6_look 117 = .ok (.getfield 13, 3) := by decide +kernel
theorem dX6_look_120 : decode cX6_look 120 = .ok (.aload_n 0, 1) := by decide +kernel
theorem dX6_look_121 : decode cX6_look 121 = .ok (.getfield 25, 3) := by decide +kernel
theorem dX6_look_124 : decode cX6_look 124 = .ok (.iload_n 1, 1) := by decide +kernel
theorem dX6_look_125 : decode cX6_look 125 = .ok (.iaload, 1) := by decide +kernel
theorem dX6_look_126 : decode cX6_look 126 = .ok (.iaload, 1) := by decide +kernel
theorem dX6_look_127 : decode cX6_look 127 = .ok (.aload_n 0, 1) := by decide +kernel
theorem dX6_look_128 : decode cX6_look 128 = .ok (.getfield 13, 3) := by decide +kernel
theorem dX6_look_131 : decode cX6_look 131 = .ok (.aload_n 0, 1) := by decide +kernel
theorem dX6_look_132 : decode cX6_look 132 = .ok (.getfield 22, 3) := by decide +kernel
theorem dX6_look_135 : decode cX6_look 135 = .ok (.iload_n 1, 1) := by decide +kernel
theorem dX6_look_136 : decode cX6_look 136 = .ok (.iaload, 1) := by decide +kernel
theorem dX6_look_137 : decode cX6_look 137 = .ok (.iaload, 1) := by decide +kernel
theorem dX6_look_138 : decode cX6_look 138 = .ok (.isub, 1) := by decide +kernel
theorem dX6_look_139 : decode cX6_look 139 = .ok (.aload_n 0, 1) := by decide +kernel
theorem dX6_look_140 : decode cX6_look 140 = .ok (.getfield 28, 3) := by decide +kernel
theorem dX6_look_143 : decode cX6_look 143 = .ok (.iload_n 1, 1) := by decide +kernel
theorem dX6_look_144 : decode cX6_look 144 = .ok (.iaload, 1) := by decide +kernel
theorem dX6_look_145 : decode cX6_look 145 = .ok (.isub, 1) := by decide +kernel
theorem dX6_look_146 : decode cX6_look 146 = .ok (.ireturn, 1) := by decide +kernel
theorem dX6_look_147 : decode cX6_look 147 = .ok (.iconst (-1), 1) := by decide +kernel
theorem dX6_look_148 : decode cX6_look 148 = .ok (.ireturn, 1) := by decide +kernel
set_option maxRecDepth 20000 in
theorem ggX6_isLate_X6_isEvent : GoodIn wsX6_isLate wsX6_isEvent := goodIn_r _ [5, 6, 33, 34, 35, 36, 37, 38, 39, 40, 41, 42, 43, 44, 45, 46, 47, 48, 49, 50, 51, 52, 53, 54, 55, 56, 57, 58] (by decide +kernel) (by decide +kernel)
set_option maxRecDepth 20000 in
theorem gX6_isLate_X6_isEvent : GoodIn wsX6_isLate (wsV RX6 91 RX6 yX6_isEvent wsX6_isEvent) := goodIn_app (goodIn_of _ (by decide +kernel)) ggX6_isLate_X6_isEvent
set_option maxRecDepth 20000 in
theorem ggX6_isLate_X6_isThere : GoodIn wsX6_isLate wsX6_isThere := goodIn_r _ [10, 11, 12, 33, 34, 35, 36, 37, 38, 39, 40, 41, 42, 43, 44, 45, 46, 47, 48, 49, 50, 51, 52, 53, 54, 55, 56, 57, 58] (by decide +kernel) (by decide +kernel)
set_option maxRecDepth 20000 in
theorem gX6_isLate_X6_isThere : GoodIn wsX6_isLate (wsV RX6 88 RX6 yX6_isThere wsX6_isThere) := goodIn_app (goodIn_of _ (by decide +kernel)) ggX6_isLate_X6_isThere
set_option maxRecDepth 20000 in
theorem ggX6_isLate_X6_spreads : GoodIn wsX6_isLate wsX6_spreads := goodIn_r _ [16, 6, 17, 18, 19, 20, 21, 22, 23, 24, 25, 26, 27, 4, 28, 7, 8, 9, 10, 11, 12, 33, 34, 35, 36, 37, 38, 39, 40, 41, 42, 43, 44, 45, 46, 47, 48, 49, 50, 51, 52, 53, 54, 55, 56, 57, 58] (by decide +kernel) (by decide +kernel)
set_option maxRecDepth 20000 in
theorem gX6_isLate_X6_spreads : GoodIn wsX6_isLate (wsV RX6 110 RX6 yX6_spreads wsX6_spreads) := goodIn_app (goodIn_of _ (by decide +kernel)) ggX6_isLate_X6_spreads
set_option maxRecDepth 20000 in
theorem ggX6_isLate_X6_late : GoodIn wsX6_isLate wsX6_late := goodIn_r _ [32, 17, 18, 33, 34, 35, 36, 37, 38, 39, 40, 41, 42, 43, 44, 45, 46, 47, 48, 49, 50, 51, 52, 53, 54, 55, 56, 57, 58] (by decide +kernel) (by decide +kernel)
set_option maxRecDepth 20000 in
theorem gX6_isLate_X6_late : GoodIn wsX6_isLate (wsV RX6 103 RX6 yX6_late wsX6_late) := goodIn_app (goodIn_of _ (by decide +kernel)) ggX6_isLate_X6_late
theorem dX6_isLate_0 : decode cX6_isLate 0 = .ok (.aload_n 0, 1) := by decide +kernel
theorem dX6_isLate_1 : decode cX6_isLate 1 = .ok (.iload_n 1, 1) := by decide +kernel
theorem dX6_isLate_2 : decode cX6_isLate 2 = .ok (.invokevirtual 91, 3) := by decide +kernel
theorem dX6_isLate_5 : decode cX6_isLate 5 = .ok (.ifCond .eq 30, 3) := by decide +kernel
theorem dX6_isLate_8 : decode cX6_isLate 8 = .ok (.aload_n 0, 1) := by decide +kernel
theorem dX6_isLate_9 : decode cX6_isLate 9 = .ok (.iload_n 1, 1) := by decide +kernel
theorem dX6_isLate_10 : decode cX6_isLate 10 = .ok (.invokevirtual 88, 3) := by decide +kernel
theorem dX6_isLate_13 : decode cX6_isLate 13 = .ok (.ifCond .eq 22, 3) := by decide +kernel
theorem dX6_isLate_16 : decode cX6_isLate 16 = .ok (.aload_n 0, 1) := by decide +kernel
theorem dX6_isLate_17 : decode cX6_isLate 17 = .ok (.invokevirtual 110, 3) := by decide +kernel
theorem dX6_isLate_20 : decode cX6_isLate 20 = .ok (.ifCond .eq 15, 3) := by decide +kernel
theorem dX6_isLate_23 : decode cX6_isLate 23 = .ok (.aload_n 0, 1) := by decide +kernel
theorem dX6_isLate_24 : decode cX6_isLate 24 = .ok (.iload_n 1, 1) := by decide +kernel
theorem dX6_isLate_25 : decode cX6_isLate 25 = .ok (.invokevirtual 103, 3) := by decide +kernel
theorem dX6_isLate_28 : decode cX6_isLate 28 = .ok (.ifCond .le 7, 3) := by decide +kernel
theorem dX6_isLate_31 : decode cX6_isLate 31 = .ok (.iconst 1, 1) := by decide +kernel
theorem dX6_isLate_32 : decode cX6_isLate 32 = .ok (.goto 4, 3) := by decide +kernel
theorem dX6_isLate_35 : decode cX6_isLate 35 = .ok (.iconst 0, 1) := by decide +kernel
theorem dX6_isLate_36 : decode cX6_isLate 36 = .ok (.ireturn, 1) := by decide +kernel
set_option maxRecDepth 20000 in
theorem ggX6_cause_X6_isLate : GoodIn wsX6_cause wsX6_isLate := goodIn_r _ [5, 6, 7, 8, 4, 9, 10, 11, 12, 13, 14, 15, 16, 17, 18, 19, 20, 21, 22, 23, 24, 25, 26, 27, 28, 29, 30, 31, 32, 33, 34, 35, 36, 45, 46, 47, 48, 49, 50, 51, 52, 53, 54, 55, 56, 57, 58, 59, 60, 61, 62, 63, 64, 65, 66, 67, 68, 69, 70] (by decide +kernel) (by decide +kernel)
set_option maxRecDepth 20000 in
theorem gX6_cause_X6_isLate : GoodIn wsX6_cause (wsV RX6 114 RX6 yX6_isLate wsX6_isLate) := goodIn_app (goodIn_of _ (by decide +kernel)) ggX6_cause_X6_isLate
set_option maxRecDepth 20000 in
theorem ggX6_cause_X6_causeOf : GoodIn wsX6_cause wsX6_causeOf := goodIn_r _ [40, 24, 28, 26, 41, 42, 43, 4, 44, 25, 21, 27, 23, 29, 30, 31, 32, 11, 12, 13, 14, 15, 16, 33, 34, 35, 36, 22, 45, 46, 47, 48, 49, 50, 51, 52, 53, 54, 55, 56, 57, 58, 59, 60, 61, 62, 63, 64, 65, 66, 67, 68, 69, 70] (by decide +kernel) (by decide +kernel)
set_option maxRecDepth 20000 in
theorem gX6_cause_X6_causeOf : GoodIn wsX6_cause (wsV RX6 117 RX6 yX6_causeOf wsX6_causeOf) := goodIn_app (goodIn_of _ (by decide +kernel)) ggX6_cause_X6_causeOf
theorem dX6_cause_0 : decode cX6_cause 0 = .ok (.aload_n 0, 1) := by decide +kernel
theorem dX6_cause_1 : decode cX6_cause 1 = .ok (.iload_n 1, 1) := by decide +kernel
theorem dX6_cause_2 : decode cX6_cause 2 = .ok (.invokevirtual 114, 3) := by decide +kernel
theorem dX6_cause_5 : decode cX6_cause 5 = .ok (.ifCond .eq 11, 3) := by decide +kernel
theorem dX6_cause_8 : decode cX6_cause 8 = .ok (.aload_n 0, 1) := by decide +kernel
theorem dX6_cause_9 : decode cX6_cause 9 = .ok (.iload_n 1, 1) := by decide +kernel
theorem dX6_cause_10 : decode cX6_cause 10 = .ok (.invokevirtual 117, 3) := by decide +kernel
theorem dX6_cause_13 : decode cX6_cause 13 = .ok (.goto 4, 3) := by decide +kernel
theorem dX6_cause_16 : decode cX6_cause 16 = .ok (.iconst (-1), 1) := by decide +kernel
theorem dX6_cause_17 : decode cX6_cause 17 = .ok (.ireturn, 1) := by decide +kernel
set_option maxRecDepth 20000 in
theorem ggX6_way_X6_isLate : GoodIn wsX6_way wsX6_isLate := goodIn_r _ [7, 8, 9, 10, 6, 11, 12, 13, 14, 15, 16, 17, 18, 19, 20, 21, 22, 23, 24, 25, 26, 27, 2, 28, 29, 30, 31, 32, 33, 34, 35, 36, 37, 46, 47, 48, 49, 50, 51, 52, 53, 54, 55, 56, 57, 58, 59, 60, 61, 62, 63, 64, 65, 66, 67, 68, 69, 70, 71] (by decide +kernel) (by decide +kernel)
set_option maxRecDepth 20000 in
theorem gX6_way_X6_isLate : GoodIn wsX6_way (wsV RX6 114 RX6 yX6_isLate wsX6_isLate) := goodIn_app (goodIn_of _ (by decide +kernel)) ggX6_way_X6_isLate
set_option maxRecDepth 20000 in
theorem ggX6_way_X6_causeOf : GoodIn wsX6_way wsX6_causeOf := goodIn_r _ [41, 26, 29, 2, 42, 43, 44, 6, 45, 27, 23, 28, 25, 30, 31, 32, 33, 13, 14, 15, 16, 17, 18, 34, 35, 36, 37, 24, 46, 47, 48, 49, 50, 51, 52, 53, 54, 55, 56, 57, 58, 59, 60, 61, 62, 63, 64, 65, 66, 67, 68, 69, 70, 71] (by decide +kernel) (by decide +kernel)
set_option maxRecDepth 20000 in
theorem gX6_way_X6_causeOf : GoodIn wsX6_way (wsV RX6 117 RX6 yX6_causeOf wsX6_causeOf) := goodIn_app (goodIn_of _ (by decide +kernel)) ggX6_way_X6_causeOf
theorem dX6_way_0 : decode cX6_way 0 = .ok (.iload_n 2, 1) := by decide +kernel
theorem dX6_way_1 : decode cX6_way 1 = .ok (.ifCond .lt 11, 3) := by decide +kernel
theorem dX6_way_4 : decode cX6_way 4 = .ok (.aload_n 0, 1) := by decide +kernel
theorem dX6_way_5 : decode cX6_way 5 = .ok (.iload_n 1, 1) := by decide +kernel
theorem dX6_way_6 : decode cX6_way 6 = .ok (.invokevirtual 114, 3) := by decide +kernel
theorem dX6_way_9 : decode cX6_way 9 = .ok (.ifCond .ne 5, 3) := by decide +kernel
theorem dX6_way_12 : decode cX6_way 12 = .ok (.iconst (-1), 1) := by decide +kernel
theorem dX6_way_13 : decode cX6_way 13 = .ok (.ireturn, 1) := by decide +kernel
theorem dX6_way_14 : decode cX6_way 14 = .ok (.iconst 0, 1) := by decide +kernel
theorem dX6_way_15 : decode cX6_way 15 = .ok (.istore_n 3, 1) := by decide +kernel
theorem dX6_way_16 : decode cX6_way 16 = .ok (.iload_n 1, 1) := by decide +kernel
theorem dX6_way_17 : decode cX6_way 17 = .ok (.istore 4, 2) := by decide +kernel
theorem dX6_way_19 : decode cX6_way 19 = .ok (.iconst 1, 1) := by decide +kernel
theorem dX6_way_20 : decode cX6_way 20 = .ok (.istore 5, 2) := by decide +kernel
theorem dX6_way_22 : decode cX6_way 22 = .ok (.iload 5, 2) := by decide +kernel
theorem dX6_way_24 : decode cX6_way 24 = .ok (.ifCond .eq 97, 3) := by decide +kernel
theorem dX6_way_27 : decode cX6_way 27 = .ok (.aload_n 0, 1) := by decide +kernel
theorem dX6_way_28 : decode cX6_way 28 = .ok (.getfield 59, 3) := by decide +kernel
theorem dX6_way_31 : decode cX6_way 31 = .ok (.iload_n 3, 1) := by decide +kernel
theorem dX6_way_32 : decode cX6_way 32 = .ok (.iload 4, 2) := by decide +kernel
theorem dX6_way_34 : decode cX6_way 34 = .ok (.iastore, 1) := by decide +kernel
theorem dX6_way_35 : decode cX6_way 35 = .ok (.iload_n 3, 1) := by decide +kernel
theorem dX6_way_36 : decode cX6_way 36 = .ok (.iconst 1, 1) := by decide +kernel
theorem dX6_way_37 : decode cX6_way 37 = .ok (.iadd, 1) := by decide +kernel
theorem dX6_way_38 : decode cX6_way 38 = .ok (.istore_n 3, 1) := by decide +kernel
theorem dX6_way_39 : decode cX6_way 39 = .ok (.aload_n 0, 1) := by decide +kernel
theorem dX6_way_40 : decode cX6_way 40 = .ok (.iload 4, 2) := by decide +kernel
theorem dX6_way_42 : decode cX6_way 42 = .ok (.invokevirtual 117, 3) := by decide +kernel
theorem dX6_way_45 : decode cX6_way 45 = .ok (.istore 6, 2) := by decide +kernel
theorem dX6_way_47 : decode cX6_way 47 = .ok (.iload 6, 2) := by decide +kernel
theorem dX6_way_49 : decode cX6_way 49 = .ok (.iconst (-1), 1) := by decide +kernel
theorem dX6_way_50 : decode cX6_way 50 = .ok (.if_icmp .ne 7, 3) := by decide +kernel
theorem dX6_way_53 : decode cX6_way 53 = .ok (.iconst (-1), 1) := by decide +kernel
theorem dX6_way_54 : decode cX6_way 54 = .ok (.goto 10, 3) := by decide +kernel
theorem dX6_way_57 : decode cX6_way 57 = .ok (.aload_n 0, 1) := by decide +kernel
theorem dX6_way_58 : decode cX6_way 58 = .ok (.getfield 22, 3) := by decide +kernel
theorem dX6_way_61 : decode cX6_way 61 = .ok (.iload 6, 2) := by decide +kernel
theorem dX6_way_63 : decode cX6_way 63 = .ok (.iaload, 1) := by decide +kernel
theorem dX6_way_64 : decode cX6_way 64 = .ok (.istore 4, 2) := by decide +kernel
theorem dX6_way_66 : decode cX6_way 66 = .ok (.iload 4, 2) := by decide +kernel
theorem dX6_way_68 : decode cX6_way 68 = .ok (.iconst (-1), 1) := by decide +kernel
theorem dX6_way_69 : decode cX6_way 69 = .ok (.if_icmp .eq 7, 3) := by decide +kernel
theorem dX6_way_72 : decode cX6_way 72 = .ok (.iconst 1, 1) := by decide +kernel
theorem dX6_way_73 : decode cX6_way 73 = .ok (.goto 4, 3) := by decide +kernel
theorem dX6_way_76 : decode cX6_way 76 = .ok (.iconst 0, 1) := by decide +kernel
theorem dX6_way_77 : decode cX6_way 77 = .ok (.istore 5, 2) := by decide +kernel
theorem dX6_way_79 : decode cX6_way 79 = .ok (.iconst 0, 1) := by decide +kernel
theorem dX6_way_80 : decode cX6_way 80 = .ok (.istore 7, 2) := by decide +kernel
theorem dX6_way_82 : decode cX6_way 82 = .ok (.iload 7, 2) := by decide +kernel
theorem dX6_way_84 : decode cX6_way 84 = .ok (.iload_n 3, 1) := by decide +kernel
theorem dX6_way_85 : decode cX6_way 85 = .ok (.if_icmp .ge 33, 3) := by decide +kernel
theorem dX6_way_88 : decode cX6_way 88 = .ok (.iload 5, 2) := by decide +kernel
theorem dX6_way_90 : decode cX6_way 90 = .ok (.ifCond .eq 19, 3) := by decide +kernel
theorem dX6_way_93 : decode cX6_way 93 = .ok (.aload_n 0, 1) := by decide +kernel
theorem dX6_way_94 : decode cX6_way 94 = .ok (.getfield 59, 3) := by decide +kernel
theorem dX6_way_97 : decode cX6_way 97 = .ok (.iload 7, 2) := by decide +kernel
theorem dX6_way_99 : decode cX6_way 99 = .ok (.iaload, 1) := by decide +kernel
theorem dX6_way_100 : decode cX6_way 100 = .ok (.iload 4, 2) := by decide +kernel
theorem dX6_way_102 : decode cX6_way 102 = .ok (.if_icmp .eq 7, 3) := by decide +kernel
theorem dX6_way_105 : decode cX6_way 105 = .ok (.iconst 1, 1) := by decide +kernel
theorem dX6_way_106 : decode cX6_way 106 = .ok (.goto 4, 3) := by decide +kernel
theorem dX6_way_109 : decode cX6_way 109 = .ok (.iconst 0, 1) := by decide +kernel
theorem dX6_way_110 : decode cX6_way 110 = .ok (.istore 5, 2) := by decide +kernel
theorem dX6_way_112 : decode cX6_way 112 = .ok (.iinc 7 1, 3) := by decide +kernel
theorem dX6_way_115 : decode cX6_way 115 = .ok (.goto (-33), 3) := by decide +kernel
theorem dX6_way_118 : decode cX6_way 118 = .ok (.goto (-96), 3) := by decide +kernel
theorem dX6_way_121 : decode cX6_way 121 = .ok (.iload_n 2, 1) := by decide +kernel
theorem dX6_way_122 : decode cX6_way 122 = .ok (.iload_n 3, 1) := by decide +kernel
theorem dX6_way_123 : decode cX6_way 123 = .ok (.if_icmp .ge 12, 3) := by decide +kernel
theorem dX6_way_126 : decode cX6_way 126 = .ok (.aload_n 0, 1) := by decide +kernel
theorem dX6_way_127 : decode cX6_way 127 = .ok (.getfield 59, 3) := by decide +kernel
theorem dX6_way_130 : decode cX6_way 130 = .ok (.iload_n 2, 1) := by decide +kernel
theorem dX6_way_131 : decode cX6_way 131 = .ok (.iaload, 1) := by decide +kernel
theorem dX6_way_132 : decode cX6_way 132 = .ok (.goto 4, 3) := by decide +kernel
theorem dX6_way_135 : decode cX6_way 135 = .ok (.iconst (-1), 1) := by decide +kernel
theorem dX6_way_136 : decode cX6_way 136 = .ok (.ireturn, 1) := by decide +kernel
set_option maxRecDepth 20000 in
theorem ggX6_isFor_X6_areThere : GoodIn wsX6_isFor wsX6_areThere := goodIn_r _ [6, 7, 8, 9, 10, 11, 5, 12, 13, 14, 15, 16, 17, 18, 19, 20, 21, 22, 23, 24, 25, 26, 27, 28, 29, 30, 31, 32, 33, 34, 35, 36, 37, 38, 39, 40] (by decide +kernel) (by decide +kernel)
set_option maxRecDepth 20000 in
theorem gX6_isFor_X6_areThere : GoodIn wsX6_isFor (wsV RX6 100 RX6 yX6_areThere wsX6_areThere) := goodIn_app (goodIn_of _ (by decide +kernel)) ggX6_isFor_X6_areThere
theorem dX6_isFor_0 : decode cX6_isFor 0 = .ok (.iload_n 1, 1) := by decide +kernel
theorem dX6_isFor_1 : decode cX6_isFor 1 = .ok (.iload_n 2, 1) := by decide +kernel
theorem dX6_isFor_2 : decode cX6_isFor 2 = .ok (.if_icmp .le 24, 3) := by decide +kernel
theorem dX6_isFor_5 : decode cX6_isFor 5 = .ok (.aload_n 0, 1) := by decide +kernel
theorem dX6_isFor_6 : decode cX6_isFor 6 = .ok (.getfield 31, 3) := by decide +kernel
theorem dX6_isFor_9 : decode cX6_isFor 9 = .ok (.iload_n 1, 1) := by decide +kernel
theorem dX6_isFor_10 : decode cX6_isFor 10 = .ok (.baload, 1) := by decide +kernel
theorem dX6_isFor_11 : decode cX6_isFor 11 = .ok (.ifCond .eq 15, 3) := by decide +kernel
theorem dX6_isFor_14 : decode cX6_isFor 14 = .ok (.aload_n 0, 1) := by decide +kernel
theorem dX6_isFor_15 : decode cX6_isFor 15 = .ok (.iload_n 1, 1) := by decide +kernel
theorem dX6_isFor_16 : decode cX6_isFor 16 = .ok (.invokevirtual 100, 3) := by decide +kernel
theorem dX6_isFor_19 : decode cX6_isFor 19 = .ok (.ifCond .eq 7, 3) := by decide +kernel
theorem dX6_isFor_22 : decode cX6_isFor 22 = .ok (.iconst 1, 1) := by decide +kernel
theorem dX6_isFor_23 : decode cX6_isFor 23 = .ok (.goto 4, 3) := by decide +kernel
theorem dX6_isFor_26 : decode cX6_isFor 26 = .ok (.iconst 0, 1) := by decide +kernel
theorem dX6_isFor_27 : decode cX6_isFor 27 = .ok (.ireturn, 1) := by decide +kernel
set_option maxRecDepth 20000 in
theorem ggX6_reaches_X6_isFor : GoodIn wsX6_reaches wsX6_isFor := goodIn_r _ [12, 13, 14, 15, 16, 11, 17, 5, 6, 18, 19, 20, 21, 22, 23, 24, 25, 26, 27, 28, 29, 30, 31, 32, 33, 34, 35, 36, 37, 38, 39, 40, 41, 42, 43, 44, 45, 46, 47, 48, 49] (by decide +kernel) (by decide +kernel)
set_option maxRecDepth 20000 in
theorem gX6_reaches_X6_isFor : GoodIn wsX6_reaches (wsV RX6 120 RX6 yX6_isFor wsX6_isFor) := goodIn_app (goodIn_of _ (by decide +kernel)) ggX6_reaches_X6_isFor
theorem dX6_reaches_0 : decode cX6_reaches 0 = .ok (.iconst 0, 1) := by decide +kernel
theorem dX6_reaches_1 : decode cX6_reaches 1 = .ok (.istore_n 3, 1) := by decide +kernel
theorem dX6_reaches_2 : decode cX6_reaches 2 = .ok (.iload_n 3, 1) := by decide +kernel
theorem dX6_reaches_3 : decode cX6_reaches 3 = .ok (.aload_n 0, 1) := by decide +kernel
theorem dX6_reaches_4 : decode cX6_reaches 4 = .ok (.getfield 77, 3) := by decide +kernel
theorem dX6_reaches_7 : decode cX6_reaches 7 = .ok (.if_icmp .ge 32, 3) := by decide +kernel
theorem dX6_reaches_10 : decode cX6_reaches 10 = .ok (.aload_n 0, 1) := by decide +kernel
theorem dX6_reaches_11 : decode cX6_reaches 11 = .ok (.getfield 62, 3) := by decide +kernel
theorem dX6_reaches_14 : decode cX6_reaches 14 = .ok (.iload_n 3, 1) := by decide +kernel
theorem dX6_reaches_15 : decode cX6_reaches 15 = .ok (.iload_n 3, 1) := by decide +kernel
theorem dX6_reaches_16 : decode cX6_reaches 16 = .ok (.iload_n 1, 1) := by decide +kernel
theorem dX6_reaches_17 : decode cX6_reaches 17 = .ok (.if_icmp .ne 7, 3) := by decide +kernel
theorem dX6_reaches_20 : decode cX6_reaches 20 = .ok (.iconst 1, 1) := by decide +kernel
theorem dX6_reaches_21 : decode cX6_reaches 21 = .ok (.goto 4, 3) := by decide +kernel
theorem dX6_reaches_24 : decode cX6_reaches 24 = .ok (.iconst 0, 1) := by decide +kernel
theorem dX6_reaches_25 : decode cX6_reaches 25 = .ok (.bastore, 1) := by decide +kernel
theorem dX6_reaches_26 : decode cX6_reaches 26 = .ok (.aload_n 0, 1) := by decide +kernel
theorem dX6_reaches_27 : decode cX6_reaches 27 = .ok (.getfield 65, 3) := by decide +kernel
theorem dX6_reaches_30 : decode cX6_reaches 30 = .ok (.iload_n 3, 1) := by decide +kernel
theorem dX6_reaches_31 : decode cX6_reaches 31 = .ok (.iconst 0, 1) := by decide +kernel
theorem dX6_reaches_32 : decode cX6_reaches 32 = .ok (.bastore, 1) := by decide +kernel
theorem dX6_reaches_33 : decode cX6_reaches 33 = .ok (.iinc 3 1, 3) := by decide +kernel
theorem dX6_reaches_36 : decode cX6_reaches 36 = .ok (.goto (-34), 3) := by decide +kernel
theorem dX6_reaches_39 : decode cX6_reaches 39 = .ok (.iconst 1, 1) := by decide +kernel
theorem dX6_reaches_40 : decode cX6_reaches 40 = .ok (.istore_n 3, 1) := by decide +kernel
theorem dX6_reaches_41 : decode cX6_reaches 41 = .ok (.iload_n 3, 1) := by decide +kernel
theorem dX6_reaches_42 : decode cX6_reaches 42 = .ok (.aload_n 0, 1) := by decide +kernel
theorem dX6_reaches_43 : decode cX6_reaches 43 = .ok (.getfield 77, 3) := by decide +kernel
theorem dX6_reaches_46 : decode cX6_reaches 46 = .ok (.if_icmp .gt 233, 3) := by decide +kernel
theorem dX6_reaches_49 : decode cX6_reaches 49 = .ok (.bipush 60, 2) := by decide +kernel
theorem dX6_reaches_51 : decode cX6_reaches 51 = .ok (.iload_n 3, 1) := by decide +kernel
theorem dX6_reaches_52 : decode cX6_reaches 52 = .ok (.imul, 1) := by decide +kernel
theorem dX6_reaches_53 : decode cX6_reaches 53 = .ok (.istore 4, 2) := by decide +kernel
theorem dX6_reaches_55 : decode cX6_reaches 55 = .ok (.iload 4, 2) := by decide +kernel
theorem dX6_reaches_57 : decode cX6_reaches 57 = .ok (.bipush 60, 2) := by decide +kernel
theorem dX6_reaches_59 : decode cX6_reaches 59 = .ok (.isub, 1) := by decide +kernel
theorem dX6_reaches_60 : decode cX6_reaches 60 = .ok (.istore 5, 2) := by decide +kernel
theorem dX6_reaches_62 : decode cX6_reaches 62 = .ok (.iconst 0, 1) := by decide +kernel
theorem dX6_reaches_63 : decode cX6_reaches 63 = .ok (.istore 6, 2) := by decide +kernel
theorem dX6_reaches_65 : decode cX6_reaches 65 = .ok (.iload 6, 2) := by decide +kernel
theorem dX6_reaches_67 : decode cX6_reaches 67 = .ok (.aload_n 0, 1) := by decide +kernel
theorem dX6_reaches_68 : decode cX6_reaches 68 = .ok (.getfield 77, 3) := by decide +kernel
theorem dX6_reaches_71 : decode cX6_reaches 71 = .ok (.if_icmp .ge 31, 3) := by decide +kernel
theorem dX6_reaches_74 : decode cX6_reaches 74 = .ok (.aload_n 0, 1) := by decide +kernel
theorem dX6_reaches_75 : decode cX6_reaches 75 = .ok (.getfield 62, 3) := by decide +kernel
theorem dX6_reaches_78 : decode cX6_reaches 78 = .ok (.iload 4, 2) := by decide +kernel
theorem dX6_reaches_80 : decode cX6_reaches 80 = .ok (.iload 6, 2) := by decide +kernel
theorem dX6_reaches_82 : decode cX6_reaches 82 = .ok (.iadd, 1) := by decide +kernel
theorem dX6_reaches_83 : decode cX6_reaches 83 = .ok (.iconst 0, 1) := by decide +kernel
theorem dX6_reaches_84 : decode cX6_reaches 84 = .ok (.bastore, 1) := by decide +kernel
theorem dX6_reaches_85 : decode cX6_reaches 85 = .ok (.aload_n 0, 1) := by decide +kernel
theorem dX6_reaches_86 : decode cX6_reaches 86 = .ok (.getfield 65, 3) := by decide +kernel
theorem dX6_reaches_89 : decode cX6_reaches 89 = .ok (.iload 4, 2) := by decide +kernel
theorem dX6_reaches_91 : decode cX6_reaches 91 = .ok (.iload 6, 2) := by decide +kernel
theorem dX6_reaches_93 : decode cX6_reaches 93 = .ok (.iadd, 1) := by decide +kernel
theorem dX6_reaches_94 : decode cX6_reaches 94 = .ok (.iconst 0, 1) := by decide +kernel
theorem dX6_reaches_95 : decode cX6_reaches 95 = .ok (.bastore, 1) := by decide +kernel
theorem dX6_reaches_96 : decode cX6_reaches 96 = .ok (.iinc 6 1, 3) := by decide +kernel
theorem dX6_reaches_99 : decode cX6_reaches 99 = .ok (.goto (-34), 3) := by decide +kernel
theorem dX6_reaches_102 : decode cX6_reaches 102 = .ok (.iconst 0, 1) := by decide +kernel
theorem dX6_reaches_103 : decode cX6_reaches 103 = .ok (.istore 6, 2) := by decide +kernel
theorem dX6_reaches_105 : decode cX6_reaches 105 = .ok (.iload 6, 2) := by decide +kernel
theorem dX6_reaches_107 : decode cX6_reaches 107 = .ok (.aload_n 0, 1) := by decide +kernel
theorem dX6_reaches_108 : decode cX6_reaches 108 = .ok (.getfield 81, 3) := by decide +kernel
theorem dX6_reaches_111 : decode cX6_reaches 111 = .ok (.if_icmp .ge 162, 3) := by decide +kernel
theorem dX6_reaches_114 : decode cX6_reaches 114 = .ok (.aload_n 0, 1) := by decide +kernel
theorem dX6_reaches_115 : decode cX6_reaches 115 = .ok (.iload 6, 2) := by decide +kernel
theorem dX6_reaches_117 : decode cX6_reaches 117 = .ok (.iload_n 2, 1) := by decide +kernel
theorem dX6_reaches_118 : decode cX6_reaches 118 = .ok (.invokevirtual 120, 3) := by decide +kernel
theorem dX6_reaches_121 : decode cX6_reaches 121 = .ok (.ifCond .ne 6, 3) := by decide +kernel
theorem dX6_reaches_124 : decode cX6_reaches 124 = .ok (.goto 143, 3) := by decide +kernel
theorem dX6_reaches_127 : decode cX6_reaches 127 = .ok (.aload_n 0, 1) := by decide +kernel
theorem dX6_reaches_128 : decode cX6_reaches 128 = .ok (.getfield 62, 3) := by decide +kernel
theorem dX6_reaches_131 : decode cX6_reaches 131 = .ok (.iload 4, 2) := by decide +kernel
theorem dX6_reaches_133 : decode cX6_reaches 133 = .ok (.aload_n 0, 1) := by decide +kernel
theorem dX6_reaches_134 : decode cX6_reaches 134 = .ok (.getfield 22, 3) := by decide +kernel
theorem dX6_reaches_137 : decode cX6_reaches 137 = .ok (.iload 6, 2) := by decide +kernel
theorem dX6_reaches_139 : decode cX6_reaches 139 = .ok (.iaload, 1) := by decide +kernel
theorem dX6_reaches_140 : decode cX6_reaches 140 = .ok (.iadd, 1) := by decide +kernel
theorem dX6_reaches_141 : decode cX6_reaches 141 = .ok (.aload_n 0, 1) := by decide +kernel
theorem dX6_reaches_142 : decode cX6_reaches 142 = .ok (.getfield 62, 3) := by decide +kernel
theorem dX6_reaches_145 : decode cX6_reaches 145 = .ok (.iload 4, 2) := by decide +kernel
theorem dX6_reaches_147 : decode cX6_reaches 147 = .ok (.aload_n 0, 1) := by decide +kernel
theorem dX6_reaches_148 : decode cX6_reaches 148 = .ok (.getfield 22, 3) := by decide +kernel
theorem dX6_reaches_151 : decode cX6_reaches 151 = .ok (.iload 6, 2) := by decide +kernel
theorem dX6_reaches_153 : decode cX6_reaches 153 = .ok (.iaload, 1) := by decide +kernel
theorem dX6_reaches_154 : decode cX6_reaches 154 = .ok (.iadd, 1) := by decide +kernel
theorem dX6_reaches_155 : decode cX6_reaches 155 = .ok (.baload, 1) := by decide +kernel
theorem dX6_reaches_156 : decode cX6_reaches 156 = .ok (.ifCond .ne 21, 3) := by decide +kernel
theorem dX6_reaches_159 : decode cX6_reaches 159 = .ok (.aload_n 0, 1) := by decide +kernel
theorem dX6_reaches_160 : decode cX6_reaches 160 = .ok (.getfield 62, 3) := by decide +kernel
theorem dX6_reaches_163 : decode cX6_reaches 163 = .ok (.iload 5, 2) := by decide +kernel
theorem dX6_reaches_165 : decode cX6_reaches 165 = .ok (.aload_n 0, 1) := by decide +kernel
theorem dX6_reaches_166 : decode cX6_reaches 166 = .ok (.getfield 25, 3) := by decide +kernel
theorem dX6_reaches_169 : decode cX6_reaches 169 = .ok (.iload 6, 2) := by decide +kernel
theorem dX6_reaches_171 : decode cX6_reaches 171 = .ok (.iaload, 1) := by decide +kernel
theorem dX6_reaches_172 : decode cX6_reaches 172 = .ok (.iadd, 1) := by decide +kernel
theorem dX6_reaches_173 : decode cX6_reaches 173 = .ok (.baload, 1) := by decide +kernel
theorem dX6_reaches_174 : decode cX6_reaches 174 = .ok (.ifCond .eq 7, 3) := by decide +kernel
theorem dX6_reaches_177 : decode cX6_reaches 177 = .ok (.iconst 1, 1) := by decide +kernel
theorem dX6_reaches_178 : decode cX6_reaches 178 = .ok (.goto 4, 3) := by decide +kernel
theorem dX6_reaches_181 : decode cX6_reaches 181 = .ok (.iconst 0, 1) := by decide +kernel
theorem dX6_reaches_182 : decode cX6_reaches 182 = .ok (.bastore, 1) := by decide +kernel
theorem dX6_reaches_183 : decode cX6_reaches 183 = .ok (.aload_n 0, 1) := by decide +kernel
theorem dX6_reaches_184 : decode cX6_reaches 184 = .ok (.getfield 65, 3) := by decide +kernel
theorem dX6_reaches_187 : decode cX6_reaches 187 = .ok (.iload 4, 2) := by decide +kernel
theorem dX6_reaches_189 : decode cX6_reaches 189 = .ok (.aload_n 0, 1) := by decide +kernel
theorem dX6_reaches_190 : decode cX6_reaches 190 = .ok (.getfield 22, 3) := by decide +kernel
theorem dX6_reaches_193 : decode cX6_reaches 193 = .ok (.iload 6, 2) := by decide +kernel
theorem dX6_reaches_195 : decode cX6_reaches 195 = .ok (.iaload, 1) := by decide +kernel
theorem dX6_reaches_196 : decode cX6_reaches 196 = .ok (.iadd, 1) := by decide +kernel
theorem dX6_reaches_197 : decode cX6_reaches 197 = .ok (.aload_n 0, 1) := by decide +kernel
theorem dX6_reaches_198 : decode cX6_reaches 198 = .ok (.getfield 65, 3) := by decide +kernel
theorem dX6_reaches_201 : decode cX6_reaches 201 = .ok (.iload 4, 2) := by decide +kernel
theorem dX6_reaches_203 : decode cX6_reaches 203 = .ok (.aload_n 0, 1) := by decide +kernel
theorem dX6_reaches_204 : decode cX6_reaches 204 = .ok (.getfield 22, 3) := by decide +kernel
theorem dX6_reaches_207 : decode cX6_reaches 207 = .ok (.iload 6, 2) := by decide +kernel
theorem dX6_reaches_209 : decode cX6_reaches 209 = .ok (.iaload, 1) := by decide +kernel
theorem dX6_reaches_210 : decode cX6_reaches 210 = .ok (.iadd, 1) := by decide +kernel
theorem dX6_reaches_211 : decode cX6_reaches 211 = .ok (.baload, 1) := by decide +kernel
theorem dX6_reaches_212 : decode cX6_reaches 212 = .ok (.ifCond .ne 49, 3) := by decide +kernel
theorem dX6_reaches_215 : decode cX6_reaches 215 = .ok (.aload_n 0, 1) := by decide +kernel
theorem dX6_reaches_216 : decode cX6_reaches 216 = .ok (.getfield 65, 3) := by decide +kernel
theorem dX6_reaches_219 : decode cX6_reaches 219 = .ok (.iload 5, 2) := by decide +kernel
theorem dX6_reaches_221 : decode cX6_reaches 221 = .ok (.aload_n 0, 1) := by decide +kernel
theorem dX6_reaches_222 : decode cX6_reaches 222 = .ok (.getfield 25, 3) := by decide +kernel
theorem dX6_reaches_225 : decode cX6_reaches 225 = .ok (.iload 6, 2) := by decide +kernel
theorem dX6_reaches_227 : decode cX6_reaches 227 = .ok (.iaload, 1) := by decide +kernel
theorem dX6_reaches_228 : decode cX6_reaches 228 = .ok (.iadd, 1) := by decide +kernel
theorem dX6_reaches_229 : decode cX6_reaches 229 = .ok (.baload, 1) := by decide +kernel
theorem dX6_reaches_230 : decode cX6_reaches 230 = .ok (.ifCond .ne 31, 3) := by decide +kernel
theorem dX6_reaches_233 : decode cX6_reaches 233 = .ok (.aload_n 0, 1) := by decide +kernel
theorem dX6_reaches_234 : decode cX6_reaches 234 = .ok (.getfield 28, 3) := by decide +kernel
theorem dX6_reaches_237 : decode cX6_reaches 237 = .ok (.iload 6, 2) := by decide +kernel
theorem dX6_reaches_239 : decode cX6_reaches 239 = .ok (.iaload, 1) := by decide +kernel
theorem dX6_reaches_240 : decode cX6_reaches 240 = .ok (.ifCond .le 25, 3) := by decide +kernel
theorem dX6_reaches_243 : decode cX6_reaches 243 = .ok (.aload_n 0, 1) := by decide +kernel
theorem dX6_reaches_244 : decode cX6_reaches 244 = .ok (.getfield 62, 3) := by decide +kernel
theorem dX6_reaches_247 : decode cX6_reaches 247 = .ok (.iload 5, 2) := by decide +kernel
theorem dX6_reaches_249 : decode cX6_reaches 249 = .ok (.aload_n 0, 1) := by decide +kernel
theorem dX6_reaches_250 : decode cX6_reaches 250 = .ok (.getfield 25, 3) := by decide +kernel
theorem dX6_reaches_253 : decode cX6_reaches 253 = .ok (.iload 6, 2) := by decide +kernel
theorem dX6_reaches_255 : decode cX6_reaches 255 = .ok (.iaload, 1) := by decide +kernel
theorem dX6_reaches_256 : decode cX6_reaches 256 = .ok (.iadd, 1) := by decide +kernel
theorem dX6_reaches_257 : decode cX6_reaches 257 = .ok (.baload, 1) := by decide +kernel
theorem dX6_reaches_258 : decode cX6_reaches 258 = .ok (.ifCond .eq 7, 3) := by decide +kernel
theorem dX6_reaches_261 : decode cX6_reaches 261 = .ok (.iconst 1, 1) := by decide +kernel
theorem dX6_reaches_262 : decode cX6_reaches 262 = .ok (.goto 4, 3) := by decide +kernel
theorem dX6_reaches_265 : decode cX6_reaches 265 = .ok (.iconst 0, 1) := by decide +kernel
theorem dX6_reaches_266 : decode cX6_reaches 266 = .ok (.bastore, 1) := by decide +kernel
theorem dX6_reaches_267 : decode cX6_reaches 267 = .ok (.iinc 6 1, 3) := by decide +kernel
theorem dX6_reaches_270 : decode cX6_reaches 270 = .ok (.goto (-165), 3) := by decide +kernel
theorem dX6_reaches_273 : decode cX6_reaches 273 = .ok (.iinc 3 1, 3) := by decide +kernel
theorem dX6_reaches_276 : decode cX6_reaches 276 = .ok (.goto (-235), 3) := by decide +kernel
theorem dX6_reaches_279 : decode cX6_reaches 279 = .ok (.return_, 1) := by decide +kernel
set_option maxRecDepth 20000 in
theorem ggX6_closes_X6_reaches : GoodIn wsX6_closes wsX6_reaches := goodIn_r _ [11, 2, 6, 4, 12, 1, 3, 5, 13, 14, 15, 10, 16, 17, 18, 19, 20, 21, 22, 23, 24, 25, 26, 27, 28, 29, 30, 31, 32, 33, 34, 35, 36, 37, 38, 39, 40, 41, 42, 43, 44, 45, 46, 47, 48, 49, 50, 51, 52, 53] (by decide +kernel) (by decide +kernel)
set_option maxRecDepth 20000 in
theorem gX6_closes_X6_reaches : GoodIn wsX6_closes (wsV RX6 124 RX6 yX6_reaches wsX6_reaches) := goodIn_app (goodIn_of _ (by decide +kernel)) ggX6_closes_X6_reaches
theorem dX6_closes_0 : decode cX6_closes 0 = .ok (.aload_n 0, 1) := by decide +kernel
theorem dX6_closes_1 : decode cX6_closes 1 = .ok (.aload_n 0, 1) := by decide +kernel
