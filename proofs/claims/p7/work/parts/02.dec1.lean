theorem dX3_init_0 : decode cX3_init 0 = .ok (.aload_n 0, 1) := da_40 (0, .aload_n 0, 1) (List.mem_of_getElem? (i := 0) rfl)
theorem dX3_init_1 : decode cX3_init 1 = .ok (.invokespecial 3, 3) := da_40 (1, .invokespecial 3, 3) (List.mem_of_getElem? (i := 1) rfl)
theorem dX3_init_4 : decode cX3_init 4 = .ok (.aload_n 0, 1) := da_40 (4, .aload_n 0, 1) (List.mem_of_getElem? (i := 2) rfl)
theorem dX3_init_5 : decode cX3_init 5 = .ok (.bipush 100, 2) := da_40 (5, .bipush 100, 2) (List.mem_of_getElem? (i := 3) rfl)
theorem dX3_init_7 : decode cX3_init 7 = .ok (.newarray .int, 2) := da_40 (7, .newarray .int, 2) (List.mem_of_getElem? (i := 4) rfl)
theorem dX3_init_9 : decode cX3_init 9 = .ok (.putfield 9, 3) := da_40 (9, .putfield 9, 3) (List.mem_of_getElem? (i := 5) rfl)
theorem dX3_init_12 : decode cX3_init 12 = .ok (.aload_n 0, 1) := da_40 (12, .aload_n 0, 1) (List.mem_of_getElem? (i := 6) rfl)
theorem dX3_init_13 : decode cX3_init 13 = .ok (.bipush 60, 2) := da_40 (13, .bipush 60, 2) (List.mem_of_getElem? (i := 7) rfl)
theorem dX3_init_15 : decode cX3_init 15 = .ok (.newarray .int, 2) := da_40 (15, .newarray .int, 2) (List.mem_of_getElem? (i := 8) rfl)
theorem dX3_init_17 : decode cX3_init 17 = .ok (.putfield 15, 3) := da_40 (17, .putfield 15, 3) (List.mem_of_getElem? (i := 9) rfl)
theorem dX3_init_20 : decode cX3_init 20 = .ok (.aload_n 0, 1) := da_40 (20, .aload_n 0, 1) (List.mem_of_getElem? (i := 10) rfl)
theorem dX3_init_21 : decode cX3_init 21 = .ok (.bipush 60, 2) := da_40 (21, .bipush 60, 2) (List.mem_of_getElem? (i := 11) rfl)
theorem dX3_init_23 : decode cX3_init 23 = .ok (.newarray .int, 2) := da_40 (23, .newarray .int, 2) (List.mem_of_getElem? (i := 12) rfl)
theorem dX3_init_25 : decode cX3_init 25 = .ok (.putfield 18, 3) := da_40 (25, .putfield 18, 3) (List.mem_of_getElem? (i := 13) rfl)
theorem dX3_init_28 : decode cX3_init 28 = .ok (.aload_n 0, 1) := da_40 (28, .aload_n 0, 1) (List.mem_of_getElem? (i := 14) rfl)
theorem dX3_init_29 : decode cX3_init 29 = .ok (.aload_n 1, 1) := da_40 (29, .aload_n 1, 1) (List.mem_of_getElem? (i := 15) rfl)
theorem dX3_init_30 : decode cX3_init 30 = .ok (.putfield 21, 3) := da_40 (30, .putfield 21, 3) (List.mem_of_getElem? (i := 16) rfl)
theorem dX3_init_33 : decode cX3_init 33 = .ok (.return_, 1) := da_40 (33, .return_, 1) (List.mem_of_getElem? (i := 17) rfl)
set_option maxRecDepth 20000 in
theorem ggX3_follow_X3_breakAndSort : GoodIn wsX3_follow wsX3_breakAndSort := goodIn_r _ [8, 1, 9, 10, 11, 12, 13, 14, 15, 16, 17, 18, 19, 20, 21, 22, 7, 23, 24, 25, 3, 65, 66, 67, 68, 69, 70, 71, 72, 73, 74, 75, 76, 77, 78, 79, 80] rfl (by decide +kernel)
set_option maxRecDepth 20000 in
theorem gX3_follow_X3_breakAndSort : GoodIn wsX3_follow (wsV RX3 25 RX3 yX3_breakAndSort wsX3_breakAndSort) := goodIn_app (goodIn_r _ [4, 5, 6, 7] rfl (by decide +kernel)) ggX3_follow_X3_breakAndSort
set_option maxRecDepth 20000 in
theorem ggX3_follow_X1_putEarliest : GoodIn wsX3_follow wsX1_putEarliest := goodIn_r _ [29, 30, 31, 32, 69, 70, 71, 72, 73, 74, 75, 76, 77, 78, 79, 80] rfl (by decide +kernel)
set_option maxRecDepth 20000 in
theorem gX3_follow_X1_putEarliest : GoodIn wsX3_follow (wsV RX3 29 RX1 yX1_putEarliest wsX1_putEarliest) := goodIn_app (goodIn_r _ [26, 27, 28, 15] rfl (by decide +kernel)) ggX3_follow_X1_putEarliest
set_option maxRecDepth 20000 in
theorem ggX3_follow_X1_settle : GoodIn wsX3_follow wsX1_settle := goodIn_r _ [36, 30, 37, 38, 39, 15, 40, 41, 19, 18, 42, 43, 44, 45, 46, 47, 48, 49, 50, 51, 52, 13, 14, 16, 17, 69, 70, 71, 72, 73, 74, 75, 76, 77, 78, 79, 80] rfl (by decide +kernel)
set_option maxRecDepth 20000 in
theorem gX3_follow_X1_settle : GoodIn wsX3_follow (wsV RX3 35 RX1 yX1_settle wsX1_settle) := goodIn_app (goodIn_r _ [33, 34, 35, 15] rfl (by decide +kernel)) ggX3_follow_X1_settle
set_option maxRecDepth 20000 in
theorem ggX3_follow_X3_tryToKeep : GoodIn wsX3_follow wsX3_tryToKeep := goodIn_r _ [56, 2, 1, 57, 58, 24, 25, 59, 60, 61, 62, 63, 64, 11, 33, 34, 35, 15, 36, 30, 37, 38, 39, 40, 41, 19, 18, 42, 43, 44, 45, 46, 47, 48, 49, 50, 51, 52, 13, 14, 16, 17, 65, 66, 67, 68, 69, 70, 71, 72, 73, 74, 75, 76, 77, 78, 79, 80] rfl (by decide +kernel)
set_option maxRecDepth 20000 in
theorem gX3_follow_X3_tryToKeep : GoodIn wsX3_follow (wsV RX3 39 RX3 yX3_tryToKeep wsX3_tryToKeep) := goodIn_app (goodIn_r _ [53, 54, 55, 7] rfl (by decide +kernel)) ggX3_follow_X3_tryToKeep
def dq_41 : List (Nat × Jvm.ClassFile.Instr × Nat) := [(0, .aload_n 0, 1), (1, .invokevirtual 25, 3), (4, .istore_n 2, 1), (5, .aload_n 0, 1), (6, .getfield 21, 3), (9, .aload_n 0, 1), (10, .getfield 15, 3), (13, .invokevirtual 29, 3), (16, .aload_n 0, 1), (17, .getfield 21, 3), (20, .aload_n 0, 1), (21, .getfield 15, 3), (24, .invokevirtual 35, 3), (27, .ifCond .ne 4, 3), (30, .return_, 1), (31, .iconst 0, 1), (32, .istore_n 3, 1), (33, .iload_n 3, 1), (34, .iload_n 2, 1), (35, .if_icmp .ge 20, 3), (38, .aload_n 0, 1), (39, .aload_n 0, 1), (40, .getfield 9, 3), (43, .iload_n 3, 1), (44, .iaload, 1), (45, .iload_n 1, 1), (46, .invokevirtual 39, 3), (49, .iinc 3 1, 3), (52, .goto (-19), 3), (55, .return_, 1)]
set_option maxRecDepth 20000 in
theorem da_41 : ∀ q ∈ dq_41, decode cX3_follow q.1 = .ok (q.2.1, q.2.2) := by decide +kernel
theorem dX3_follow_0 : decode cX3_follow 0 = .ok (.aload_n 0, 1) := da_41 (0, .aload_n 0, 1) (List.mem_of_getElem? (i := 0) rfl)
theorem dX3_follow_1 : decode cX3_follow 1 = .ok (.invokevirtual 25, 3) := da_41 (1, .invokevirtual 25, 3) (List.mem_of_getElem? (i := 1) rfl)
theorem dX3_follow_4 : decode cX3_follow 4 = .ok (.istore_n 2, 1) := da_41 (4, .istore_n 2, 1) (List.mem_of_getElem? (i := 2) rfl)
theorem dX3_follow_5 : decode cX3_follow 5 = .ok (.aload_n 0, 1) := da_41 (5, .aload_n 0, 1) (List.mem_of_getElem? (i := 3) rfl)
theorem dX3_follow_6 : decode cX3_follow 6 = .ok (.getfield 21, 3) := da_41 (6, .getfield 21, 3) (List.mem_of_getElem? (i := 4) rfl)
theorem dX3_follow_9 : decode cX3_follow 9 = .ok (.aload_n 0, 1) := da_41 (9, .aload_n 0, 1) (List.mem_of_getElem? (i := 5) rfl)
theorem dX3_follow_10 : decode cX3_follow 10 = .ok (.getfield 15, 3) := da_41 (10, .getfield 15, 3) (List.mem_of_getElem? (i := 6) rfl)
theorem dX3_follow_13 : decode cX3_follow 13 = .ok (.invokevirtual 29, 3) := da_41 (13, .invokevirtual 29, 3) (List.mem_of_getElem? (i := 7) rfl)
theorem dX3_follow_16 : decode cX3_follow 16 = .ok (.aload_n 0, 1) := da_41 (16, .aload_n 0, 1) (List.mem_of_getElem? (i := 8) rfl)
theorem dX3_follow_17 : decode cX3_follow 17 = .ok (.getfield 21, 3) := da_41 (17, .getfield 21, 3) (List.mem_of_getElem? (i := 9) rfl)
theorem dX3_follow_20 : decode cX3_follow 20 = .ok (.aload_n 0, 1) := da_41 (20, .aload_n 0, 1) (List.mem_of_getElem? (i := 10) rfl)
theorem dX3_follow_21 : decode cX3_follow 21 = .ok (.getfield 15, 3) := da_41 (21, .getfield 15, 3) (List.mem_of_getElem? (i := 11) rfl)
theorem dX3_follow_24 : decode cX3_follow 24 = .ok (.invokevirtual 35, 3) := da_41 (24, .invokevirtual 35, 3) (List.mem_of_getElem? (i := 12) rfl)
theorem dX3_follow_27 : decode cX3_follow 27 = .ok (.ifCond .ne 4, 3) := da_41 (27, .ifCond .ne 4, 3) (List.mem_of_getElem? (i := 13) rfl)
theorem dX3_follow_30 : decode cX3_follow 30 = .ok (.return_, 1) := da_41 (30, .return_, 1) (List.mem_of_getElem? (i := 14) rfl)
theorem dX3_follow_31 : decode cX3_follow 31 = .ok (.iconst 0, 1) := da_41 (31, .iconst 0, 1) (List.mem_of_getElem? (i := 15) rfl)
theorem dX3_follow_32 : decode cX3_follow 32 = .ok (.istore_n 3, 1) := da_41 (32, .istore_n 3, 1) (List.mem_of_getElem? (i := 16) rfl)
theorem dX3_follow_33 : decode cX3_follow 33 = .ok (.iload_n 3, 1) := da_41 (33, .iload_n 3, 1) (List.mem_of_getElem? (i := 17) rfl)
theorem dX3_follow_34 : decode cX3_follow 34 = .ok (.iload_n 2, 1) := da_41 (34, .iload_n 2, 1) (List.mem_of_getElem? (i := 18) rfl)
theorem dX3_follow_35 : decode cX3_follow 35 = .ok (.if_icmp .ge 20, 3) := da_41 (35, .if_icmp .ge 20, 3) (List.mem_of_getElem? (i := 19) rfl)
theorem dX3_follow_38 : decode cX3_follow 38 = .ok (.aload_n 0, 1) := da_41 (38, .aload_n 0, 1) (List.mem_of_getElem? (i := 20) rfl)
theorem dX3_follow_39 : decode cX3_follow 39 = .ok (.aload_n 0, 1) := da_41 (39, .aload_n 0, 1) (List.mem_of_getElem? (i := 21) rfl)
theorem dX3_follow_40 : decode cX3_follow 40 = .ok (.getfield 9, 3) := da_41 (40, .getfield 9, 3) (List.mem_of_getElem? (i := 22) rfl)
theorem dX3_follow_43 : decode cX3_follow 43 = .ok (.iload_n 3, 1) := da_41 (43, .iload_n 3, 1) (List.mem_of_getElem? (i := 23) rfl)
theorem dX3_follow_44 : decode cX3_follow 44 = .ok (.iaload, 1) := da_41 (44, .iaload, 1) (List.mem_of_getElem? (i := 24) rfl)
theorem dX3_follow_45 : decode cX3_follow 45 = .ok (.iload_n 1, 1) := da_41 (45, .iload_n 1, 1) (List.mem_of_getElem? (i := 25) rfl)
theorem dX3_follow_46 : decode cX3_follow 46 = .ok (.invokevirtual 39, 3) := da_41 (46, .invokevirtual 39, 3) (List.mem_of_getElem? (i := 26) rfl)
theorem dX3_follow_49 : decode cX3_follow 49 = .ok (.iinc 3 1, 3) := da_41 (49, .iinc 3 1, 3) (List.mem_of_getElem? (i := 27) rfl)
theorem dX3_follow_52 : decode cX3_follow 52 = .ok (.goto (-19), 3) := da_41 (52, .goto (-19), 3) (List.mem_of_getElem? (i := 28) rfl)
theorem dX3_follow_55 : decode cX3_follow 55 = .ok (.return_, 1) := da_41 (55, .return_, 1) (List.mem_of_getElem? (i := 29) rfl)
set_option maxRecDepth 20000 in
theorem ggX3_breakAndSort_X1_joinsThere : GoodIn wsX3_breakAndSort wsX1_joinsThere := goodIn_r _ [9, 10, 11, 12, 25, 26, 27, 28, 29, 30, 31, 32, 33, 34, 35, 36] rfl (by decide +kernel)
set_option maxRecDepth 20000 in
theorem gX3_breakAndSort_X1_joinsThere : GoodIn wsX3_breakAndSort (wsV RX3 54 RX1 yX1_joinsThere wsX1_joinsThere) := goodIn_app (goodIn_r _ [5, 6, 7, 8] rfl (by decide +kernel)) ggX3_breakAndSort_X1_joinsThere
set_option maxRecDepth 20000 in
theorem ggX3_breakAndSort_X3_insert : GoodIn wsX3_breakAndSort wsX3_insert := goodIn_r _ [17, 1, 18, 19, 20, 21, 22, 23, 24, 25, 26, 27, 28, 29, 30, 31, 32, 33, 34, 35, 36] rfl (by decide +kernel)
set_option maxRecDepth 20000 in
theorem gX3_breakAndSort_X3_insert : GoodIn wsX3_breakAndSort (wsV RX3 58 RX3 yX3_insert wsX3_insert) := goodIn_app (goodIn_r _ [13, 14, 15, 16] rfl (by decide +kernel)) ggX3_breakAndSort_X3_insert
def dq_42 : List (Nat × Jvm.ClassFile.Instr × Nat) := [(0, .iconst 0, 1), (1, .istore_n 1, 1), (2, .iconst 0, 1), (3, .istore_n 2, 1), (4, .iload_n 2, 1), (5, .aload_n 0, 1), (6, .getfield 21, 3), (9, .getfield 43, 3), (12, .if_icmp .ge 52, 3), (15, .aload_n 0, 1), (16, .getfield 21, 3), (19, .getfield 47, 3), (22, .iload_n 2, 1), (23, .iaload, 1), (24, .iconst 2, 1), (25, .if_icmp .ne 33, 3), (28, .aload_n 0, 1), (29, .getfield 21, 3), (32, .getfield 50, 3), (35, .iload_n 2, 1), (36, .iconst 0, 1), (37, .bastore, 1), (38, .aload_n 0, 1), (39, .getfield 21, 3), (42, .iload_n 2, 1), (43, .invokevirtual 54, 3), (46, .ifCond .eq 12, 3), (49, .aload_n 0, 1), (50, .iload_n 2, 1), (51, .iload_n 1, 1), (52, .invokevirtual 58, 3), (55, .iinc 1 1, 3), (58, .iinc 2 1, 3), (61, .goto (-57), 3), (64, .iload_n 1, 1), (65, .ireturn, 1)]
set_option maxRecDepth 20000 in
theorem da_42 : ∀ q ∈ dq_42, decode cX3_breakAndSort q.1 = .ok (q.2.1, q.2.2) := by decide +kernel
theorem dX3_breakAndSort_0 : decode cX3_breakAndSort 0 = .ok (.iconst 0, 1) := da_42 (0, .iconst 0, 1) (List.mem_of_getElem? (i := 0) rfl)
theorem dX3_breakAndSort_1 : decode cX3_breakAndSort 1 = .ok (.istore_n 1, 1) := da_42 (1, .istore_n 1, 1) (List.mem_of_getElem? (i := 1) rfl)
theorem dX3_breakAndSort_2 : decode cX3_breakAndSort 2 = .ok (.iconst 0, 1) := da_42 (2, .iconst 0, 1) (List.mem_of_getElem? (i := 2) rfl)
theorem dX3_breakAndSort_3 : decode cX3_breakAndSort 3 = .ok (.istore_n 2, 1) := da_42 (3, .istore_n 2, 1) (List.mem_of_getElem? (i := 3) rfl)
theorem dX3_breakAndSort_4 : decode cX3_breakAndSort 4 = .ok (.iload_n 2, 1) := da_42 (4, .iload_n 2, 1) (List.mem_of_getElem? (i := 4) rfl)
theorem dX3_breakAndSort_5 : decode cX3_breakAndSort 5 = .ok (.aload_n 0, 1) := da_42 (5, .aload_n 0, 1) (List.mem_of_getElem? (i := 5) rfl)
theorem dX3_breakAndSort_6 : decode cX3_breakAndSort 6 = .ok (.getfield 21, 3) := da_42 (6, .getfield 21, 3) (List.mem_of_getElem? (i := 6) rfl)
theorem dX3_breakAndSort_9 : decode cX3_breakAndSort 9 = .ok (.getfield 43, 3) := da_42 (9, .getfield 43, 3) (List.mem_of_getElem? (i := 7) rfl)
theorem dX3_breakAndSort_12 : decode cX3_breakAndSort 12 = .ok (.if_icmp .ge 52, 3) := da_42 (12, .if_icmp .ge 52, 3) (List.mem_of_getElem? (i := 8) rfl)
theorem dX3_breakAndSort_15 : decode cX3_breakAndSort 15 = .ok (.aload_n 0, 1) := da_42 (15, .aload_n 0, 1) (List.mem_of_getElem? (i := 9) rfl)
theorem dX3_breakAndSort_16 : decode cX3_breakAndSort 16 = .ok (.getfield 21, 3) := da_42 (16, .getfield 21, 3) (List.mem_of_getElem? (i := 10) rfl)
theorem dX3_breakAndSort_19 : decode cX3_breakAndSort 19 = .ok (.getfield 47, 3) := da_42 (19, .getfield 47, 3) (List.mem_of_getElem? (i := 11) rfl)
theorem dX3_breakAndSort_22 : decode cX3_breakAndSort 22 = .ok (.iload_n 2, 1) := da_42 (22, .iload_n 2, 1) (List.mem_of_getElem? (i := 12) rfl)
theorem dX3_breakAndSort_23 : decode cX3_breakAndSort 23 = .ok (.iaload, 1) := da_42 (23, .iaload, 1) (List.mem_of_getElem? (i := 13) rfl)
theorem dX3_breakAndSort_24 : decode cX3_breakAndSort 24 = .ok (.iconst 2, 1) := da_42 (24, .iconst 2, 1) (List.mem_of_getElem? (i := 14) rfl)
theorem dX3_breakAndSort_25 : decode cX3_breakAndSort 25 = .ok (.if_icmp .ne 33, 3) := da_42 (25, .if_icmp .ne 33, 3) (List.mem_of_getElem? (i := 15) rfl)
theorem dX3_breakAndSort_28 : decode cX3_breakAndSort 28 = .ok (.aload_n 0, 1) := da_42 (28, .aload_n 0, 1) (List.mem_of_getElem? (i := 16) rfl)
theorem dX3_breakAndSort_29 : decode cX3_breakAndSort 29 = .ok (.getfield 21, 3) := da_42 (29, .getfield 21, 3) (List.mem_of_getElem? (i := 17) rfl)
theorem dX3_breakAndSort_32 : decode cX3_breakAndSort 32 = .ok (.getfield 50, 3) := da_42 (32, .getfield 50, 3) (List.mem_of_getElem? (i := 18) rfl)
theorem dX3_breakAndSort_35 : decode cX3_breakAndSort 35 = .ok (.iload_n 2, 1) := da_42 (35, .iload_n 2, 1) (List.mem_of_getElem? (i := 19) rfl)
theorem dX3_breakAndSort_36 : decode cX3_breakAndSort 36 = .ok (.iconst 0, 1) := da_42 (36, .iconst 0, 1) (List.mem_of_getElem? (i := 20) rfl)
theorem dX3_breakAndSort_37 : decode cX3_breakAndSort 37 = .ok (.bastore, 1) := da_42 (37, .bastore, 1) (List.mem_of_getElem? (i := 21) rfl)
theorem dX3_breakAndSort_38 : decode cX3_breakAndSort 38 = .ok (.aload_n 0, 1) := da_42 (38, .aload_n 0, 1) (List.mem_of_getElem? (i := 22) rfl)
theorem dX3_breakAndSort_39 : decode cX3_breakAndSort 39 = .ok (.getfield 21, 3) := da_42 (39, .getfield 21, 3) (List.mem_of_getElem? (i := 23) rfl)
theorem dX3_breakAndSort_42 : decode cX3_breakAndSort 42 = .ok (.iload_n 2, 1) := da_42 (42, .iload_n 2, 1) (List.mem_of_getElem? (i := 24) rfl)
theorem dX3_breakAndSort_43 : decode cX3_breakAndSort 43 = .ok (.invokevirtual 54, 3) := da_42 (43, .invokevirtual 54, 3) (List.mem_of_getElem? (i := 25) rfl)
theorem dX3_breakAndSort_46 : decode cX3_breakAndSort 46 = .ok (.ifCond .eq 12, 3) := da_42 (46, .ifCond .eq 12, 3) (List.mem_of_getElem? (i := 26) rfl)
theorem dX3_breakAndSort_49 : decode cX3_breakAndSort 49 = .ok (.aload_n 0, 1) := da_42 (49, .aload_n 0, 1) (List.mem_of_getElem? (i := 27) rfl)
theorem dX3_breakAndSort_50 : decode cX3_breakAndSort 50 = .ok (.iload_n 2, 1) := da_42 (50, .iload_n 2, 1) (List.mem_of_getElem? (i := 28) rfl)
theorem dX3_breakAndSort_51 : decode cX3_breakAndSort 51 = .ok (.iload_n 1, 1) := da_42 (51, .iload_n 1, 1) (List.mem_of_getElem? (i := 29) rfl)
theorem dX3_breakAndSort_52 : decode cX3_breakAndSort 52 = .ok (.invokevirtual 58, 3) := da_42 (52, .invokevirtual 58, 3) (List.mem_of_getElem? (i := 30) rfl)
theorem dX3_breakAndSort_55 : decode cX3_breakAndSort 55 = .ok (.iinc 1 1, 3) := da_42 (55, .iinc 1 1, 3) (List.mem_of_getElem? (i := 31) rfl)
theorem dX3_breakAndSort_58 : decode cX3_breakAndSort 58 = .ok (.iinc 2 1, 3) := da_42 (58, .iinc 2 1, 3) (List.mem_of_getElem? (i := 32) rfl)
theorem dX3_breakAndSort_61 : decode cX3_breakAndSort 61 = .ok (.goto (-57), 3) := da_42 (61, .goto (-57), 3) (List.mem_of_getElem? (i := 33) rfl)
theorem dX3_breakAndSort_64 : decode cX3_breakAndSort 64 = .ok (.iload_n 1, 1) := da_42 (64, .iload_n 1, 1) (List.mem_of_getElem? (i := 34) rfl)
theorem dX3_breakAndSort_65 : decode cX3_breakAndSort 65 = .ok (.ireturn, 1) := da_42 (65, .ireturn, 1) (List.mem_of_getElem? (i := 35) rfl)
def dq_43 : List (Nat × Jvm.ClassFile.Instr × Nat) := [(0, .iload_n 2, 1), (1, .istore_n 3, 1), (2, .iload_n 3, 1), (3, .ifCond .le 67, 3), (6, .aload_n 0, 1), (7, .getfield 21, 3), (10, .getfield 61, 3), (13, .aload_n 0, 1), (14, .getfield 21, 3), (17, .getfield 64, 3), (20, .aload_n 0, 1), (21, .getfield 9, 3), (24, .iload_n 3, 1), (25, .iconst 1, 1), (26, .isub, 1), (27, .iaload, 1), (28, .iaload, 1), (29, .iaload, 1), (30, .aload_n 0, 1), (31, .getfield 21, 3), (34, .getfield 61, 3), (37, .aload_n 0, 1), (38, .getfield 21, 3), (41, .getfield 64, 3), (44, .iload_n 1, 1), (45, .iaload, 1), (46, .iaload, 1), (47, .if_icmp .le 23, 3), (50, .aload_n 0, 1), (51, .getfield 9, 3), (54, .iload_n 3, 1), (55, .aload_n 0, 1), (56, .getfield 9, 3), (59, .iload_n 3, 1), (60, .iconst 1, 1), (61, .isub, 1), (62, .iaload, 1), (63, .iastore, 1), (64, .iinc 3 (-1), 3), (67, .goto (-65), 3), (70, .aload_n 0, 1), (71, .getfield 9, 3), (74, .iload_n 3, 1), (75, .iload_n 1, 1), (76, .iastore, 1), (77, .return_, 1)]
set_option maxRecDepth 20000 in
theorem da_43 : ∀ q ∈ dq_43, decode cX3_insert q.1 = .ok (q.2.1, q.2.2) := by decide +kernel
theorem dX3_insert_0 : decode cX3_insert 0 = .ok (.iload_n 2, 1) := da_43 (0, .iload_n 2, 1) (List.mem_of_getElem? (i := 0) rfl)
theorem dX3_insert_1 : decode cX3_insert 1 = .ok (.istore_n 3, 1) := da_43 (1, .istore_n 3, 1) (List.mem_of_getElem? (i := 1) rfl)
theorem dX3_insert_2 : decode cX3_insert 2 = .ok (.iload_n 3, 1) := da_43 (2, .iload_n 3, 1) (List.mem_of_getElem? (i := 2) rfl)
theorem dX3_insert_3 : decode cX3_insert 3 = .ok (.ifCond .le 67, 3) := da_43 (3, .ifCond .le 67, 3) (List.mem_of_getElem? (i := 3) rfl)
theorem dX3_insert_6 : decode cX3_insert 6 = .ok (.aload_n 0, 1) := da_43 (6, .aload_n 0, 1) (List.mem_of_getElem? (i := 4) rfl)
theorem dX3_insert_7 : decode cX3_insert 7 = .ok (.getfield 21, 3) := da_43 (7, .getfield 21, 3) (List.mem_of_getElem? (i := 5) rfl)
theorem dX3_insert_10 : decode cX3_insert 10 = .ok (.getfield 61, 3) := da_43 (10, .getfield 61, 3) (List.mem_of_getElem? (i := 6) rfl)
theorem dX3_insert_13 : decode cX3_insert 13 = .ok (.aload_n 0, 1) := da_43 (13, .aload_n 0, 1) (List.mem_of_getElem? (i := 7) rfl)
theorem dX3_insert_14 : decode cX3_insert 14 = .ok (.getfield 21, 3) := da_43 (14, .getfield 21, 3) (List.mem_of_getElem? (i := 8) rfl)
theorem dX3_insert_17 : decode cX3_insert 17 = .ok (.getfield 64, 3) := da_43 (17, .getfield 64, 3) (List.mem_of_getElem? (i := 9) rfl)
theorem dX3_insert_20 : decode cX3_insert 20 = .ok (.aload_n 0, 1) := da_43 (20, .aload_n 0, 1) (List.mem_of_getElem? (i := 10) rfl)
theorem dX3_insert_21 : decode cX3_insert 21 = .ok (.getfield 9, 3) := da_43 (21, .getfield 9, 3) (List.mem_of_getElem? (i := 11) rfl)
theorem dX3_insert_24 : decode cX3_insert 24 = .ok (.iload_n 3, 1) := da_43 (24, .iload_n 3, 1) (List.mem_of_getElem? (i := 12) rfl)
theorem dX3_insert_25 : decode cX3_insert 25 = .ok (.iconst 1, 1) := da_43 (25, .iconst 1, 1) (List.mem_of_getElem? (i := 13) rfl)
theorem dX3_insert_26 : decode cX3_insert 26 = .ok (.isub, 1) := da_43 (26, .isub, 1) (List.mem_of_getElem? (i := 14) rfl)
theorem dX3_insert_27 : decode cX3_insert 27 = .ok (.iaload, 1) := da_43 (27, .iaload, 1) (List.mem_of_getElem? (i := 15) rfl)
theorem dX3_insert_28 : decode cX3_insert 28 = .ok (.iaload, 1) := da_43 (28, .iaload, 1) (List.mem_of_getElem? (i := 16) rfl)
theorem dX3_insert_29 : decode cX3_insert 29 = .ok (.iaload, 1) := da_43 (29, .iaload, 1) (List.mem_of_getElem? (i := 17) rfl)
theorem dX3_insert_30 : decode cX3_insert 30 = .ok (.aload_n 0, 1) := da_43 (30, .aload_n 0, 1) (List.mem_of_getElem? (i := 18) rfl)
theorem dX3_insert_31 : decode cX3_insert 31 = .ok (.getfield 21, 3) := da_43 (31, .getfield 21, 3) (List.mem_of_getElem? (i := 19) rfl)
theorem dX3_insert_34 : decode cX3_insert 34 = .ok (.getfield 61, 3) := da_43 (34, .getfield 61, 3) (List.mem_of_getElem? (i := 20) rfl)
theorem dX3_insert_37 : decode cX3_insert 37 = .ok (.aload_n 0, 1) := da_43 (37, .aload_n 0, 1) (List.mem_of_getElem? (i := 21) rfl)
theorem dX3_insert_38 : decode cX3_insert 38 = .ok (.getfield 21, 3) := da_43 (38, .getfield 21, 3) (List.mem_of_getElem? (i := 22) rfl)
theorem dX3_insert_41 : decode cX3_insert 41 = .ok (.getfield 64, 3) := da_43 (41, .getfield 64, 3) (List.mem_of_getElem? (i := 23) rfl)
theorem dX3_insert_44 : decode cX3_insert 44 = .ok (.iload_n 1, 1) := da_43 (44, .iload_n 1, 1) (List.mem_of_getElem? (i := 24) rfl)
theorem dX3_insert_45 : decode cX3_insert 45 = .ok (.iaload, 1) := da_43 (45, .iaload, 1) (List.mem_of_getElem? (i := 25) rfl)
theorem dX3_insert_46 : decode cX3_insert 46 = .ok (.iaload, 1) := da_43 (46, .iaload, 1) (List.mem_of_getElem? (i := 26) rfl)
theorem dX3_insert_47 : decode cX3_insert 47 = .ok (.if_icmp .le 23, 3) := da_43 (47, .if_icmp .le 23, 3) (List.mem_of_getElem? (i := 27) rfl)
theorem dX3_insert_50 : decode cX3_insert 50 = .ok (.aload_n 0, 1) := da_43 (50, .aload_n 0, 1) (List.mem_of_getElem? (i := 28) rfl)
theorem dX3_insert_51 : decode cX3_insert 51 = .ok (.getfield 9, 3) := da_43 (51, .getfield 9, 3) (List.mem_of_getElem? (i := 29) rfl)
theorem dX3_insert_54 : decode cX3_insert 54 = .ok (.iload_n 3, 1) := da_43 (54, .iload_n 3, 1) (List.mem_of_getElem? (i := 30) rfl)
theorem dX3_insert_55 : decode cX3_insert 55 = .ok (.aload_n 0, 1) := da_43 (55, .aload_n 0, 1) (List.mem_of_getElem? (i := 31) rfl)
theorem dX3_insert_56 : decode cX3_insert 56 = .ok (.getfield 9, 3) := da_43 (56, .getfield 9, 3) (List.mem_of_getElem? (i := 32) rfl)
theorem dX3_insert_59 : decode cX3_insert 59 = .ok (.iload_n 3, 1) := da_43 (59, .iload_n 3, 1) (List.mem_of_getElem? (i := 33) rfl)
theorem dX3_insert_60 : decode cX3_insert 60 = .ok (.iconst 1, 1) := da_43 (60, .iconst 1, 1) (List.mem_of_getElem? (i := 34) rfl)
theorem dX3_insert_61 : decode cX3_insert 61 = .ok (.isub, 1) := da_43 (61, .isub, 1) (List.mem_of_getElem? (i := 35) rfl)
theorem dX3_insert_62 : decode cX3_insert 62 = .ok (.iaload, 1) := da_43 (62, .iaload, 1) (List.mem_of_getElem? (i := 36) rfl)
theorem dX3_insert_63 : decode cX3_insert 63 = .ok (.iastore, 1) := da_43 (63, .iastore, 1) (List.mem_of_getElem? (i := 37) rfl)
theorem dX3_insert_64 : decode cX3_insert 64 = .ok (.iinc 3 (-1), 3) := da_43 (64, .iinc 3 (-1), 3) (List.mem_of_getElem? (i := 38) rfl)
theorem dX3_insert_67 : decode cX3_insert 67 = .ok (.goto (-65), 3) := da_43 (67, .goto (-65), 3) (List.mem_of_getElem? (i := 39) rfl)
theorem dX3_insert_70 : decode cX3_insert 70 = .ok (.aload_n 0, 1) := da_43 (70, .aload_n 0, 1) (List.mem_of_getElem? (i := 40) rfl)
theorem dX3_insert_71 : decode cX3_insert 71 = .ok (.getfield 9, 3) := da_43 (71, .getfield 9, 3) (List.mem_of_getElem? (i := 41) rfl)
theorem dX3_insert_74 : decode cX3_insert 74 = .ok (.iload_n 3, 1) := da_43 (74, .iload_n 3, 1) (List.mem_of_getElem? (i := 42) rfl)
theorem dX3_insert_75 : decode cX3_insert 75 = .ok (.iload_n 1, 1) := da_43 (75, .iload_n 1, 1) (List.mem_of_getElem? (i := 43) rfl)
theorem dX3_insert_76 : decode cX3_insert 76 = .ok (.iastore, 1) := da_43 (76, .iastore, 1) (List.mem_of_getElem? (i := 44) rfl)
theorem dX3_insert_77 : decode cX3_insert 77 = .ok (.return_, 1) := da_43 (77, .return_, 1) (List.mem_of_getElem? (i := 45) rfl)
set_option maxRecDepth 20000 in
theorem ggX3_tryToKeep_X1_settle : GoodIn wsX3_tryToKeep wsX1_settle := goodIn_r _ [18, 19, 20, 21, 22, 17, 23, 24, 25, 26, 27, 28, 29, 30, 31, 32, 33, 34, 35, 36, 37, 38, 39, 40, 41, 46, 47, 48, 49, 50, 51, 52, 53, 54, 55, 56, 57] rfl (by decide +kernel)
set_option maxRecDepth 20000 in
theorem gX3_tryToKeep_X1_settle : GoodIn wsX3_tryToKeep (wsV RX3 35 RX1 yX1_settle wsX1_settle) := goodIn_app (goodIn_r _ [14, 15, 16, 17] rfl (by decide +kernel)) ggX3_tryToKeep_X1_settle
def dq_44 : List (Nat × Jvm.ClassFile.Instr × Nat) := [(0, .aload_n 0, 1), (1, .getfield 15, 3), (4, .aload_n 0, 1), (5, .getfield 21, 3), (8, .getfield 67, 3), (11, .iload_n 1, 1), (12, .iaload, 1), (13, .iaload, 1), (14, .aload_n 0, 1), (15, .getfield 21, 3), (18, .getfield 70, 3), (21, .iload_n 1, 1), (22, .iaload, 1), (23, .iadd, 1), (24, .aload_n 0, 1), (25, .getfield 21, 3), (28, .getfield 61, 3), (31, .aload_n 0, 1), (32, .getfield 21, 3), (35, .getfield 64, 3), (38, .iload_n 1, 1), (39, .iaload, 1), (40, .iaload, 1), (41, .iload_n 2, 1), (42, .iadd, 1), (43, .if_icmp .le 4, 3), (46, .return_, 1), (47, .aload_n 0, 1), (48, .getfield 15, 3), (51, .iconst 0, 1), (52, .aload_n 0, 1), (53, .getfield 18, 3), (56, .iconst 0, 1), (57, .aload_n 0, 1), (58, .getfield 21, 3), (61, .getfield 73, 3), (64, .invokestatic 76, 3), (67, .aload_n 0, 1), (68, .getfield 21, 3), (71, .getfield 50, 3), (74, .iload_n 1, 1), (75, .iconst 1, 1), (76, .bastore, 1), (77, .aload_n 0, 1), (78, .getfield 21, 3), (81, .aload_n 0, 1), (82, .getfield 18, 3), (85, .invokevirtual 35, 3), (88, .ifCond .eq 26, 3), (91, .aload_n 0, 1)]
set_option maxRecDepth 20000 in
theorem da_44 : ∀ q ∈ dq_44, decode cX3_tryToKeep q.1 = .ok (q.2.1, q.2.2) := by decide +kernel
theorem dX3_tryToKeep_0 : decode cX3_tryToKeep 0 = .ok (.aload_n 0, 1) := da_44 (0, .aload_n 0, 1) (List.mem_of_getElem? (i := 0) rfl)
theorem dX3_tryToKeep_1 : decode cX3_tryToKeep 1 = .ok (.getfield 15, 3) := da_44 (1, .getfield 15, 3) (List.mem_of_getElem? (i := 1) rfl)
theorem dX3_tryToKeep_4 : decode cX3_tryToKeep 4 = .ok (.aload_n 0, 1) := da_44 (4, .aload_n 0, 1) (List.mem_of_getElem? (i := 2) rfl)
theorem dX3_tryToKeep_5 : decode cX3_tryToKeep 5 = .ok (.getfield 21, 3) := da_44 (5, .getfield 21, 3) (List.mem_of_getElem? (i := 3) rfl)
theorem dX3_tryToKeep_8 : decode cX3_tryToKeep 8 = .ok (.getfield 67, 3) := da_44 (8, .getfield 67, 3) (List.mem_of_getElem? (i := 4) rfl)
theorem dX3_tryToKeep_11 : decode cX3_tryToKeep 11 = .ok (.iload_n 1, 1) := da_44 (11, .iload_n 1, 1) (List.mem_of_getElem? (i := 5) rfl)
theorem dX3_tryToKeep_12 : decode cX3_tryToKeep 12 = .ok (.iaload, 1) := da_44 (12, .iaload, 1) (List.mem_of_getElem? (i := 6) rfl)
theorem dX3_tryToKeep_13 : decode cX3_tryToKeep 13 = .ok (.iaload, 1) := da_44 (13, .iaload, 1) (List.mem_of_getElem? (i := 7) rfl)
theorem dX3_tryToKeep_14 : decode cX3_tryToKeep 14 = .ok (.aload_n 0, 1) := da_44 (14, .aload_n 0, 1) (List.mem_of_getElem? (i := 8) rfl)
theorem dX3_tryToKeep_15 : decode cX3_tryToKeep 15 = .ok (.getfield 21, 3) := da_44 (15, .getfield 21, 3) (List.mem_of_getElem? (i := 9) rfl)
theorem dX3_tryToKeep_18 : decode cX3_tryToKeep 18 = .ok (.getfield 70, 3) := da_44 (18, .getfield 70, 3) (List.mem_of_getElem? (i := 10) rfl)
theorem dX3_tryToKeep_21 : decode cX3_tryToKeep 21 = .ok (.iload_n 1, 1) := da_44 (21, .iload_n 1, 1) (List.mem_of_getElem? (i := 11) rfl)
theorem dX3_tryToKeep_22 : decode cX3_tryToKeep 22 = .ok (.iaload, 1) := da_44 (22, .iaload, 1) (List.mem_of_getElem? (i := 12) rfl)
theorem dX3_tryToKeep_23 : decode cX3_tryToKeep 23 = .ok (.iadd, 1) := da_44 (23, .iadd, 1) (List.mem_of_getElem? (i := 13) rfl)
theorem dX3_tryToKeep_24 : decode cX3_tryToKeep 24 = .ok (.aload_n 0, 1) := da_44 (24, .aload_n 0, 1) (List.mem_of_getElem? (i := 14) rfl)
theorem dX3_tryToKeep_25 : decode cX3_tryToKeep 25 = .ok (.getfield 21, 3) := da_44 (25, .getfield 21, 3) (List.mem_of_getElem? (i := 15) rfl)
theorem dX3_tryToKeep_28 : decode cX3_tryToKeep 28 = .ok (.getfield 61, 3) := da_44 (28, .getfield 61, 3) (List.mem_of_getElem? (i := 16) rfl)
theorem dX3_tryToKeep_31 : decode cX3_tryToKeep 31 = .ok (.aload_n 0, 1) := da_44 (31, .aload_n 0, 1) (List.mem_of_getElem? (i := 17) rfl)
theorem dX3_tryToKeep_32 : decode cX3_tryToKeep 32 = .ok (.getfield 21, 3) := da_44 (32, .getfield 21, 3) (List.mem_of_getElem? (i := 18) rfl)
theorem dX3_tryToKeep_35 : decode cX3_tryToKeep 35 = .ok (.getfield 64, 3) := da_44 (35, .getfield 64, 3) (List.mem_of_getElem? (i := 19) rfl)
theorem dX3_tryToKeep_38 : decode cX3_tryToKeep 38 = .ok (.iload_n 1, 1) := da_44 (38, .iload_n 1, 1) (List.mem_of_getElem? (i := 20) rfl)
theorem dX3_tryToKeep_39 : decode cX3_tryToKeep 39 = .ok (.iaload, 1) := da_44 (39, .iaload, 1) (List.mem_of_getElem? (i := 21) rfl)
theorem dX3_tryToKeep_40 : decode cX3_tryToKeep 40 = .ok (.iaload, 1) := da_44 (40, .iaload, 1) (List.mem_of_getElem? (i := 22) rfl)
theorem dX3_tryToKeep_41 : decode cX3_tryToKeep 41 = .ok (.iload_n 2, 1) := da_44 (41, .iload_n 2, 1) (List.mem_of_getElem? (i := 23) rfl)
theorem dX3_tryToKeep_42 : decode cX3_tryToKeep 42 = .ok (.iadd, 1) := da_44 (42, .iadd, 1) (List.mem_of_getElem? (i := 24) rfl)
theorem dX3_tryToKeep_43 : decode cX3_tryToKeep 43 = .ok (.if_icmp .le 4, 3) := da_44 (43, .if_icmp .le 4, 3) (List.mem_of_getElem? (i := 25) rfl)
theorem dX3_tryToKeep_46 : decode cX3_tryToKeep 46 = .ok (.return_, 1) := da_44 (46, .return_, 1) (List.mem_of_getElem? (i := 26) rfl)
theorem dX3_tryToKeep_47 : decode cX3_tryToKeep 47 = .ok (.aload_n 0, 1) := da_44 (47, .aload_n 0, 1) (List.mem_of_getElem? (i := 27) rfl)
theorem dX3_tryToKeep_48 : decode cX3_tryToKeep 48 = .ok (.getfield 15, 3) := da_44 (48, .getfield 15, 3) (List.mem_of_getElem? (i := 28) rfl)
theorem dX3_tryToKeep_51 : decode cX3_tryToKeep 51 = .ok (.iconst 0, 1) := da_44 (51, .iconst 0, 1) (List.mem_of_getElem? (i := 29) rfl)
theorem dX3_tryToKeep_52 : decode cX3_tryToKeep 52 = .ok (.aload_n 0, 1) := da_44 (52, .aload_n 0, 1) (List.mem_of_getElem? (i := 30) rfl)
theorem dX3_tryToKeep_53 : decode cX3_tryToKeep 53 = .ok (.getfield 18, 3) := da_44 (53, .getfield 18, 3) (List.mem_of_getElem? (i := 31) rfl)
theorem dX3_tryToKeep_56 : decode cX3_tryToKeep 56 = .ok (.iconst 0, 1) := da_44 (56, .iconst 0, 1) (List.mem_of_getElem? (i := 32) rfl)
theorem dX3_tryToKeep_57 : decode cX3_tryToKeep 57 = .ok (.aload_n 0, 1) := da_44 (57, .aload_n 0, 1) (List.mem_of_getElem? (i := 33) rfl)
theorem dX3_tryToKeep_58 : decode cX3_tryToKeep 58 = .ok (.getfield 21, 3) := da_44 (58, .getfield 21, 3) (List.mem_of_getElem? (i := 34) rfl)
theorem dX3_tryToKeep_61 : decode cX3_tryToKeep 61 = .ok (.getfield 73, 3) := da_44 (61, .getfield 73, 3) (List.mem_of_getElem? (i := 35) rfl)
theorem dX3_tryToKeep_64 : decode cX3_tryToKeep 64 = .ok (.invokestatic 76, 3) := da_44 (64, .invokestatic 76, 3) (List.mem_of_getElem? (i := 36) rfl)
theorem dX3_tryToKeep_67 : decode cX3_tryToKeep 67 = .ok (.aload_n 0, 1) := da_44 (67, .aload_n 0, 1) (List.mem_of_getElem? (i := 37) rfl)
theorem dX3_tryToKeep_68 : decode cX3_tryToKeep 68 = .ok (.getfield 21, 3) := da_44 (68, .getfield 21, 3) (List.mem_of_getElem? (i := 38) rfl)
theorem dX3_tryToKeep_71 : decode cX3_tryToKeep 71 = .ok (.getfield 50, 3) := da_44 (71, .getfield 50, 3) (List.mem_of_getElem? (i := 39) rfl)
theorem dX3_tryToKeep_74 : decode cX3_tryToKeep 74 = .ok (.iload_n 1, 1) := da_44 (74, .iload_n 1, 1) (List.mem_of_getElem? (i := 40) rfl)
theorem dX3_tryToKeep_75 : decode cX3_tryToKeep 75 = .ok (.iconst 1, 1) := da_44 (75, .iconst 1, 1) (List.mem_of_getElem? (i := 41) rfl)
theorem dX3_tryToKeep_76 : decode cX3_tryToKeep 76 = .ok (.bastore, 1) := da_44 (76, .bastore, 1) (List.mem_of_getElem? (i := 42) rfl)
theorem dX3_tryToKeep_77 : decode cX3_tryToKeep 77 = .ok (.aload_n 0, 1) := da_44 (77, .aload_n 0, 1) (List.mem_of_getElem? (i := 43) rfl)
theorem dX3_tryToKeep_78 : decode cX3_tryToKeep 78 = .ok (.getfield 21, 3) := da_44 (78, .getfield 21, 3) (List.mem_of_getElem? (i := 44) rfl)
theorem dX3_tryToKeep_81 : decode cX3_tryToKeep 81 = .ok (.aload_n 0, 1) := da_44 (81, .aload_n 0, 1) (List.mem_of_getElem? (i := 45) rfl)
theorem dX3_tryToKeep_82 : decode cX3_tryToKeep 82 = .ok (.getfield 18, 3) := da_44 (82, .getfield 18, 3) (List.mem_of_getElem? (i := 46) rfl)
theorem dX3_tryToKeep_85 : decode cX3_tryToKeep 85 = .ok (.invokevirtual 35, 3) := da_44 (85, .invokevirtual 35, 3) (List.mem_of_getElem? (i := 47) rfl)
theorem dX3_tryToKeep_88 : decode cX3_tryToKeep 88 = .ok (.ifCond .eq 26, 3) := da_44 (88, .ifCond .eq 26, 3) (List.mem_of_getElem? (i := 48) rfl)
theorem dX3_tryToKeep_91 : decode cX3_tryToKeep 91 = .ok (.aload_n 0, 1) := da_44 (91, .aload_n 0, 1) (List.mem_of_getElem? (i := 49) rfl)
def dq_45 : List (Nat × Jvm.ClassFile.Instr × Nat) := [(92, .getfield 18, 3), (95, .iconst 0, 1), (96, .aload_n 0, 1), (97, .getfield 15, 3), (100, .iconst 0, 1), (101, .aload_n 0, 1), (102, .getfield 21, 3), (105, .getfield 73, 3), (108, .invokestatic 76, 3), (111, .goto 13, 3), (114, .aload_n 0, 1), (115, .getfield 21, 3), (118, .getfield 50, 3), (121, .iload_n 1, 1), (122, .iconst 0, 1), (123, .bastore, 1), (124, .return_, 1)]
set_option maxRecDepth 20000 in
theorem da_45 : ∀ q ∈ dq_45, decode cX3_tryToKeep q.1 = .ok (q.2.1, q.2.2) := by decide +kernel
theorem dX3_tryToKeep_92 : decode cX3_tryToKeep 92 = .ok (.getfield 18, 3) := da_45 (92, .getfield 18, 3) (List.mem_of_getElem? (i := 0) rfl)
theorem dX3_tryToKeep_95 : decode cX3_tryToKeep 95 = .ok (.iconst 0, 1) := da_45 (95, .iconst 0, 1) (List.mem_of_getElem? (i := 1) rfl)
theorem dX3_tryToKeep_96 : decode cX3_tryToKeep 96 = .ok (.aload_n 0, 1) := da_45 (96, .aload_n 0, 1) (List.mem_of_getElem? (i := 2) rfl)
theorem dX3_tryToKeep_97 : decode cX3_tryToKeep 97 = .ok (.getfield 15, 3) := da_45 (97, .getfield 15, 3) (List.mem_of_getElem? (i := 3) rfl)
theorem dX3_tryToKeep_100 : decode cX3_tryToKeep 100 = .ok (.iconst 0, 1) := da_45 (100, .iconst 0, 1) (List.mem_of_getElem? (i := 4) rfl)
theorem dX3_tryToKeep_101 : decode cX3_tryToKeep 101 = .ok (.aload_n 0, 1) := da_45 (101, .aload_n 0, 1) (List.mem_of_getElem? (i := 5) rfl)
theorem dX3_tryToKeep_102 : decode cX3_tryToKeep 102 = .ok (.getfield 21, 3) := da_45 (102, .getfield 21, 3) (List.mem_of_getElem? (i := 6) rfl)
theorem dX3_tryToKeep_105 : decode cX3_tryToKeep 105 = .ok (.getfield 73, 3) := da_45 (105, .getfield 73, 3) (List.mem_of_getElem? (i := 7) rfl)
theorem dX3_tryToKeep_108 : decode cX3_tryToKeep 108 = .ok (.invokestatic 76, 3) := da_45 (108, .invokestatic 76, 3) (List.mem_of_getElem? (i := 8) rfl)
theorem dX3_tryToKeep_111 : decode cX3_tryToKeep 111 = .ok (.goto 13, 3) := da_45 (111, .goto 13, 3) (List.mem_of_getElem? (i := 9) rfl)
theorem dX3_tryToKeep_114 : decode cX3_tryToKeep 114 = .ok (.aload_n 0, 1) := da_45 (114, .aload_n 0, 1) (List.mem_of_getElem? (i := 10) rfl)
theorem dX3_tryToKeep_115 : decode cX3_tryToKeep 115 = .ok (.getfield 21, 3) := da_45 (115, .getfield 21, 3) (List.mem_of_getElem? (i := 11) rfl)
theorem dX3_tryToKeep_118 : decode cX3_tryToKeep 118 = .ok (.getfield 50, 3) := da_45 (118, .getfield 50, 3) (List.mem_of_getElem? (i := 12) rfl)
theorem dX3_tryToKeep_121 : decode cX3_tryToKeep 121 = .ok (.iload_n 1, 1) := da_45 (121, .iload_n 1, 1) (List.mem_of_getElem? (i := 13) rfl)
theorem dX3_tryToKeep_122 : decode cX3_tryToKeep 122 = .ok (.iconst 0, 1) := da_45 (122, .iconst 0, 1) (List.mem_of_getElem? (i := 14) rfl)
theorem dX3_tryToKeep_123 : decode cX3_tryToKeep 123 = .ok (.bastore, 1) := da_45 (123, .bastore, 1) (List.mem_of_getElem? (i := 15) rfl)
theorem dX3_tryToKeep_124 : decode cX3_tryToKeep 124 = .ok (.return_, 1) := da_45 (124, .return_, 1) (List.mem_of_getElem? (i := 16) rfl)
def dq_46 : List (Nat × Jvm.ClassFile.Instr × Nat) := [(0, .aload_n 0, 1), (1, .invokespecial 3, 3), (4, .aload_n 0, 1), (5, .bipush 30, 2), (7, .newarray .int, 2), (9, .putfield 9, 3), (12, .aload_n 0, 1), (13, .bipush 30, 2), (15, .newarray .int, 2), (17, .putfield 15, 3), (20, .aload_n 0, 1), (21, .bipush 30, 2), (23, .newarray .int, 2), (25, .putfield 18, 3), (28, .aload_n 0, 1), (29, .bipush 30, 2), (31, .newarray .int, 2), (33, .putfield 21, 3), (36, .aload_n 0, 1), (37, .bipush 30, 2), (39, .newarray .int, 2), (41, .putfield 24, 3), (44, .aload_n 0, 1), (45, .bipush 30, 2), (47, .newarray .int, 2), (49, .putfield 27, 3), (52, .aload_n 0, 1), (53, .iconst 0, 1), (54, .putfield 30, 3), (57, .aload_n 0, 1), (58, .aload_n 1, 1), (59, .putfield 34, 3), (62, .return_, 1)]
set_option maxRecDepth 20000 in
theorem da_46 : ∀ q ∈ dq_46, decode cX4_init q.1 = .ok (q.2.1, q.2.2) := by decide +kernel
theorem dX4_init_0 : decode cX4_init 0 = .ok (.aload_n 0, 1) := da_46 (0, .aload_n 0, 1) (List.mem_of_getElem? (i := 0) rfl)
theorem dX4_init_1 : decode cX4_init 1 = .ok (.invokespecial 3, 3) := da_46 (1, .invokespecial 3, 3) (List.mem_of_getElem? (i := 1) rfl)
theorem dX4_init_4 : decode cX4_init 4 = .ok (.aload_n 0, 1) := da_46 (4, .aload_n 0, 1) (List.mem_of_getElem? (i := 2) rfl)
theorem dX4_init_5 : decode cX4_init 5 = .ok (.bipush 30, 2) := da_46 (5, .bipush 30, 2) (List.mem_of_getElem? (i := 3) rfl)
theorem dX4_init_7 : decode cX4_init 7 = .ok (.newarray .int, 2) := da_46 (7, .newarray .int, 2) (List.mem_of_getElem? (i := 4) rfl)
theorem dX4_init_9 : decode cX4_init 9 = .ok (.putfield 9, 3) := da_46 (9, .putfield 9, 3) (List.mem_of_getElem? (i := 5) rfl)
theorem dX4_init_12 : decode cX4_init 12 = .ok (.aload_n 0, 1) := da_46 (12, .aload_n 0, 1) (List.mem_of_getElem? (i := 6) rfl)
theorem dX4_init_13 : decode cX4_init 13 = .ok (.bipush 30, 2) := da_46 (13, .bipush 30, 2) (List.mem_of_getElem? (i := 7) rfl)
theorem dX4_init_15 : decode cX4_init 15 = .ok (.newarray .int, 2) := da_46 (15, .newarray .int, 2) (List.mem_of_getElem? (i := 8) rfl)
theorem dX4_init_17 : decode cX4_init 17 = .ok (.putfield 15, 3) := da_46 (17, .putfield 15, 3) (List.mem_of_getElem? (i := 9) rfl)
theorem dX4_init_20 : decode cX4_init 20 = .ok (.aload_n 0, 1) := da_46 (20, .aload_n 0, 1) (List.mem_of_getElem? (i := 10) rfl)
theorem dX4_init_21 : decode cX4_init 21 = .ok (.bipush 30, 2) := da_46 (21, .bipush 30, 2) (List.mem_of_getElem? (i := 11) rfl)
theorem dX4_init_23 : decode cX4_init 23 = .ok (.newarray .int, 2) := da_46 (23, .newarray .int, 2) (List.mem_of_getElem? (i := 12) rfl)
theorem dX4_init_25 : decode cX4_init 25 = .ok (.putfield 18, 3) := da_46 (25, .putfield 18, 3) (List.mem_of_getElem? (i := 13) rfl)
theorem dX4_init_28 : decode cX4_init 28 = .ok (.aload_n 0, 1) := da_46 (28, .aload_n 0, 1) (List.mem_of_getElem? (i := 14) rfl)
theorem dX4_init_29 : decode cX4_init 29 = .ok (.bipush 30, 2) := da_46 (29, .bipush 30, 2) (List.mem_of_getElem? (i := 15) rfl)
theorem dX4_init_31 : decode cX4_init 31 = .ok (.newarray .int, 2) := da_46 (31, .newarray .int, 2) (List.mem_of_getElem? (i := 16) rfl)
theorem dX4_init_33 : decode cX4_init 33 = .ok (.putfield 21, 3) := da_46 (33, .putfield 21, 3) (List.mem_of_getElem? (i := 17) rfl)
theorem dX4_init_36 : decode cX4_init 36 = .ok (.aload_n 0, 1) := da_46 (36, .aload_n 0, 1) (List.mem_of_getElem? (i := 18) rfl)
theorem dX4_init_37 : decode cX4_init 37 = .ok (.bipush 30, 2) := da_46 (37, .bipush 30, 2) (List.mem_of_getElem? (i := 19) rfl)
theorem dX4_init_39 : decode cX4_init 39 = .ok (.newarray .int, 2) := da_46 (39, .newarray .int, 2) (List.mem_of_getElem? (i := 20) rfl)
theorem dX4_init_41 : decode cX4_init 41 = .ok (.putfield 24, 3) := da_46 (41, .putfield 24, 3) (List.mem_of_getElem? (i := 21) rfl)
theorem dX4_init_44 : decode cX4_init 44 = .ok (.aload_n 0, 1) := da_46 (44, .aload_n 0, 1) (List.mem_of_getElem? (i := 22) rfl)
theorem dX4_init_45 : decode cX4_init 45 = .ok (.bipush 30, 2) := da_46 (45, .bipush 30, 2) (List.mem_of_getElem? (i := 23) rfl)
theorem dX4_init_47 : decode cX4_init 47 = .ok (.newarray .int, 2) := da_46 (47, .newarray .int, 2) (List.mem_of_getElem? (i := 24) rfl)
theorem dX4_init_49 : decode cX4_init 49 = .ok (.putfield 27, 3) := da_46 (49, .putfield 27, 3) (List.mem_of_getElem? (i := 25) rfl)
theorem dX4_init_52 : decode cX4_init 52 = .ok (.aload_n 0, 1) := da_46 (52, .aload_n 0, 1) (List.mem_of_getElem? (i := 26) rfl)
theorem dX4_init_53 : decode cX4_init 53 = .ok (.iconst 0, 1) := da_46 (53, .iconst 0, 1) (List.mem_of_getElem? (i := 27) rfl)
theorem dX4_init_54 : decode cX4_init 54 = .ok (.putfield 30, 3) := da_46 (54, .putfield 30, 3) (List.mem_of_getElem? (i := 28) rfl)
theorem dX4_init_57 : decode cX4_init 57 = .ok (.aload_n 0, 1) := da_46 (57, .aload_n 0, 1) (List.mem_of_getElem? (i := 29) rfl)
theorem dX4_init_58 : decode cX4_init 58 = .ok (.aload_n 1, 1) := da_46 (58, .aload_n 1, 1) (List.mem_of_getElem? (i := 30) rfl)
theorem dX4_init_59 : decode cX4_init 59 = .ok (.putfield 34, 3) := da_46 (59, .putfield 34, 3) (List.mem_of_getElem? (i := 31) rfl)
theorem dX4_init_62 : decode cX4_init 62 = .ok (.return_, 1) := da_46 (62, .return_, 1) (List.mem_of_getElem? (i := 32) rfl)
def dq_47 : List (Nat × Jvm.ClassFile.Instr × Nat) := [(0, .iload_n 1, 1), (1, .ifCond .lt 15, 3), (4, .iload_n 1, 1), (5, .aload_n 0, 1), (6, .getfield 30, 3), (9, .if_icmp .ge 7, 3), (12, .iconst 1, 1), (13, .goto 4, 3), (16, .iconst 0, 1), (17, .ireturn, 1)]
set_option maxRecDepth 20000 in
theorem da_47 : ∀ q ∈ dq_47, decode cX4_hasGroup q.1 = .ok (q.2.1, q.2.2) := by decide +kernel
theorem dX4_hasGroup_0 : decode cX4_hasGroup 0 = .ok (.iload_n 1, 1) := da_47 (0, .iload_n 1, 1) (List.mem_of_getElem? (i := 0) rfl)
theorem dX4_hasGroup_1 : decode cX4_hasGroup 1 = .ok (.ifCond .lt 15, 3) := da_47 (1, .ifCond .lt 15, 3) (List.mem_of_getElem? (i := 1) rfl)
theorem dX4_hasGroup_4 : decode cX4_hasGroup 4 = .ok (.iload_n 1, 1) := da_47 (4, .iload_n 1, 1) (List.mem_of_getElem? (i := 2) rfl)
theorem dX4_hasGroup_5 : decode cX4_hasGroup 5 = .ok (.aload_n 0, 1) := da_47 (5, .aload_n 0, 1) (List.mem_of_getElem? (i := 3) rfl)
theorem dX4_hasGroup_6 : decode cX4_hasGroup 6 = .ok (.getfield 30, 3) := da_47 (6, .getfield 30, 3) (List.mem_of_getElem? (i := 4) rfl)
theorem dX4_hasGroup_9 : decode cX4_hasGroup 9 = .ok (.if_icmp .ge 7, 3) := da_47 (9, .if_icmp .ge 7, 3) (List.mem_of_getElem? (i := 5) rfl)
theorem dX4_hasGroup_12 : decode cX4_hasGroup 12 = .ok (.iconst 1, 1) := da_47 (12, .iconst 1, 1) (List.mem_of_getElem? (i := 6) rfl)
theorem dX4_hasGroup_13 : decode cX4_hasGroup 13 = .ok (.goto 4, 3) := da_47 (13, .goto 4, 3) (List.mem_of_getElem? (i := 7) rfl)
theorem dX4_hasGroup_16 : decode cX4_hasGroup 16 = .ok (.iconst 0, 1) := da_47 (16, .iconst 0, 1) (List.mem_of_getElem? (i := 8) rfl)
theorem dX4_hasGroup_17 : decode cX4_hasGroup 17 = .ok (.ireturn, 1) := da_47 (17, .ireturn, 1) (List.mem_of_getElem? (i := 9) rfl)
set_option maxRecDepth 20000 in
theorem ggX4_canGo_X1_hasEvent : GoodIn wsX4_canGo wsX1_hasEvent := goodIn_r _ [7, 8, 34, 35, 36, 37, 38, 39, 40, 41, 42, 43, 44, 45] rfl (by decide +kernel)
set_option maxRecDepth 20000 in
theorem gX4_canGo_X1_hasEvent : GoodIn wsX4_canGo (wsV RX4 38 RX1 yX1_hasEvent wsX1_hasEvent) := goodIn_app (goodIn_r _ [3, 4, 5, 6] rfl (by decide +kernel)) ggX4_canGo_X1_hasEvent
set_option maxRecDepth 20000 in
theorem ggX4_canGo_X4_trainAfter : GoodIn wsX4_canGo wsX4_trainAfter := goodIn_r _ [13, 1, 2, 14, 15, 16, 17, 18, 6, 19, 20, 21, 22, 23, 24, 25, 26, 27, 28, 29, 30, 31, 32, 33, 34, 35, 36, 37, 38, 39, 40, 41, 42, 43, 44, 45] rfl (by decide +kernel)
set_option maxRecDepth 20000 in
theorem gX4_canGo_X4_trainAfter : GoodIn wsX4_canGo (wsV RX4 47 RX4 yX4_trainAfter wsX4_trainAfter) := goodIn_app (goodIn_r _ [9, 10, 11, 12] rfl (by decide +kernel)) ggX4_canGo_X4_trainAfter
def dq_48 : List (Nat × Jvm.ClassFile.Instr × Nat) := [(0, .aload_n 0, 1), (1, .getfield 34, 3), (4, .iload_n 1, 1), (5, .invokevirtual 38, 3), (8, .ifCond .eq 25, 3), (11, .aload_n 0, 1), (12, .getfield 34, 3), (15, .iload 4, 2), (17, .invokevirtual 38, 3), (20, .ifCond .eq 13, 3), (23, .iload_n 2, 1), (24, .iconst (-1), 1), (25, .if_icmp .ne 10, 3), (28, .iload_n 3, 1), (29, .iconst (-1), 1), (30, .if_icmp .eq 5, 3), (33, .iconst 0, 1), (34, .ireturn, 1), (35, .aload_n 0, 1), (36, .aload_n 0, 1), (37, .getfield 34, 3), (40, .getfield 44, 3), (43, .iload_n 1, 1), (44, .iaload, 1), (45, .iload_n 2, 1), (46, .invokevirtual 47, 3), (49, .istore 5, 2), (51, .aload_n 0, 1), (52, .iload 5, 2), (54, .iload_n 3, 1), (55, .invokevirtual 47, 3), (58, .istore 5, 2), (60, .iload 5, 2), (62, .iconst (-1), 1), (63, .if_icmp .eq 22, 3), (66, .aload_n 0, 1), (67, .getfield 34, 3), (70, .getfield 44, 3), (73, .iload 4, 2), (75, .iaload, 1), (76, .iload 5, 2), (78, .if_icmp .ne 7, 3), (81, .iconst 1, 1), (82, .goto 4, 3), (85, .iconst 0, 1), (86, .ireturn, 1)]
set_option maxRecDepth 20000 in
theorem da_48 : ∀ q ∈ dq_48, decode cX4_canGo q.1 = .ok (q.2.1, q.2.2) := by decide +kernel
theorem dX4_canGo_0 : decode cX4_canGo 0 = .ok (.aload_n 0, 1) := da_48 (0, .aload_n 0, 1) (List.mem_of_getElem? (i := 0) rfl)
theorem dX4_canGo_1 : decode cX4_canGo 1 = .ok (.getfield 34, 3) := da_48 (1, .getfield 34, 3) (List.mem_of_getElem? (i := 1) rfl)
theorem dX4_canGo_4 : decode cX4_canGo 4 = .ok (.iload_n 1, 1) := da_48 (4, .iload_n 1, 1) (List.mem_of_getElem? (i := 2) rfl)
theorem dX4_canGo_5 : decode cX4_canGo 5 = .ok (.invokevirtual 38, 3) := da_48 (5, .invokevirtual 38, 3) (List.mem_of_getElem? (i := 3) rfl)
theorem dX4_canGo_8 : decode cX4_canGo 8 = .ok (.ifCond .eq 25, 3) := da_48 (8, .ifCond .eq 25, 3) (List.mem_of_getElem? (i := 4) rfl)
theorem dX4_canGo_11 : decode cX4_canGo 11 = .ok (.aload_n 0, 1) := da_48 (11, .aload_n 0, 1) (List.mem_of_getElem? (i := 5) rfl)
theorem dX4_canGo_12 : decode cX4_canGo 12 = .ok (.getfield 34, 3) := da_48 (12, .getfield 34, 3) (List.mem_of_getElem? (i := 6) rfl)
theorem dX4_canGo_15 : decode cX4_canGo 15 = .ok (.iload 4, 2) := da_48 (15, .iload 4, 2) (List.mem_of_getElem? (i := 7) rfl)
theorem dX4_canGo_17 : decode cX4_canGo 17 = .ok (.invokevirtual 38, 3) := da_48 (17, .invokevirtual 38, 3) (List.mem_of_getElem? (i := 8) rfl)
theorem dX4_canGo_20 : decode cX4_canGo 20 = .ok (.ifCond .eq 13, 3) := da_48 (20, .ifCond .eq 13, 3) (List.mem_of_getElem? (i := 9) rfl)
theorem dX4_canGo_23 : decode cX4_canGo 23 = .ok (.iload_n 2, 1) := da_48 (23, .iload_n 2, 1) (List.mem_of_getElem? (i := 10) rfl)
theorem dX4_canGo_24 : decode cX4_canGo 24 = .ok (.iconst (-1), 1) := da_48 (24, .iconst (-1), 1) (List.mem_of_getElem? (i := 11) rfl)
theorem dX4_canGo_25 : decode cX4_canGo 25 = .ok (.if_icmp .ne 10, 3) := da_48 (25, .if_icmp .ne 10, 3) (List.mem_of_getElem? (i := 12) rfl)
theorem dX4_canGo_28 : decode cX4_canGo 28 = .ok (.iload_n 3, 1) := da_48 (28, .iload_n 3, 1) (List.mem_of_getElem? (i := 13) rfl)
theorem dX4_canGo_29 : decode cX4_canGo 29 = .ok (.iconst (-1), 1) := da_48 (29, .iconst (-1), 1) (List.mem_of_getElem? (i := 14) rfl)
theorem dX4_canGo_30 : decode cX4_canGo 30 = .ok (.if_icmp .eq 5, 3) := da_48 (30, .if_icmp .eq 5, 3) (List.mem_of_getElem? (i := 15) rfl)
theorem dX4_canGo_33 : decode cX4_canGo 33 = .ok (.iconst 0, 1) := da_48 (33, .iconst 0, 1) (List.mem_of_getElem? (i := 16) rfl)
theorem dX4_canGo_34 : decode cX4_canGo 34 = .ok (.ireturn, 1) := da_48 (34, .ireturn, 1) (List.mem_of_getElem? (i := 17) rfl)
theorem dX4_canGo_35 : decode cX4_canGo 35 = .ok (.aload_n 0, 1) := da_48 (35, .aload_n 0, 1) (List.mem_of_getElem? (i := 18) rfl)
theorem dX4_canGo_36 : decode cX4_canGo 36 = .ok (.aload_n 0, 1) := da_48 (36, .aload_n 0, 1) (List.mem_of_getElem? (i := 19) rfl)
theorem dX4_canGo_37 : decode cX4_canGo 37 = .ok (.getfield 34, 3) := da_48 (37, .getfield 34, 3) (List.mem_of_getElem? (i := 20) rfl)
theorem dX4_canGo_40 : decode cX4_canGo 40 = .ok (.getfield 44, 3) := da_48 (40, .getfield 44, 3) (List.mem_of_getElem? (i := 21) rfl)
theorem dX4_canGo_43 : decode cX4_canGo 43 = .ok (.iload_n 1, 1) := da_48 (43, .iload_n 1, 1) (List.mem_of_getElem? (i := 22) rfl)
theorem dX4_canGo_44 : decode cX4_canGo 44 = .ok (.iaload, 1) := da_48 (44, .iaload, 1) (List.mem_of_getElem? (i := 23) rfl)
theorem dX4_canGo_45 : decode cX4_canGo 45 = .ok (.iload_n 2, 1) := da_48 (45, .iload_n 2, 1) (List.mem_of_getElem? (i := 24) rfl)
theorem dX4_canGo_46 : decode cX4_canGo 46 = .ok (.invokevirtual 47, 3) := da_48 (46, .invokevirtual 47, 3) (List.mem_of_getElem? (i := 25) rfl)
theorem dX4_canGo_49 : decode cX4_canGo 49 = .ok (.istore 5, 2) := da_48 (49, .istore 5, 2) (List.mem_of_getElem? (i := 26) rfl)
theorem dX4_canGo_51 : decode cX4_canGo 51 = .ok (.aload_n 0, 1) := da_48 (51, .aload_n 0, 1) (List.mem_of_getElem? (i := 27) rfl)
theorem dX4_canGo_52 : decode cX4_canGo 52 = .ok (.iload 5, 2) := da_48 (52, .iload 5, 2) (List.mem_of_getElem? (i := 28) rfl)
theorem dX4_canGo_54 : decode cX4_canGo 54 = .ok (.iload_n 3, 1) := da_48 (54, .iload_n 3, 1) (List.mem_of_getElem? (i := 29) rfl)
theorem dX4_canGo_55 : decode cX4_canGo 55 = .ok (.invokevirtual 47, 3) := da_48 (55, .invokevirtual 47, 3) (List.mem_of_getElem? (i := 30) rfl)
theorem dX4_canGo_58 : decode cX4_canGo 58 = .ok (.istore 5, 2) := da_48 (58, .istore 5, 2) (List.mem_of_getElem? (i := 31) rfl)
theorem dX4_canGo_60 : decode cX4_canGo 60 = .ok (.iload 5, 2) := da_48 (60, .iload 5, 2) (List.mem_of_getElem? (i := 32) rfl)
theorem dX4_canGo_62 : decode cX4_canGo 62 = .ok (.iconst (-1), 1) := da_48 (62, .iconst (-1), 1) (List.mem_of_getElem? (i := 33) rfl)
theorem dX4_canGo_63 : decode cX4_canGo 63 = .ok (.if_icmp .eq 22, 3) := da_48 (63, .if_icmp .eq 22, 3) (List.mem_of_getElem? (i := 34) rfl)
theorem dX4_canGo_66 : decode cX4_canGo 66 = .ok (.aload_n 0, 1) := da_48 (66, .aload_n 0, 1) (List.mem_of_getElem? (i := 35) rfl)
theorem dX4_canGo_67 : decode cX4_canGo 67 = .ok (.getfield 34, 3) := da_48 (67, .getfield 34, 3) (List.mem_of_getElem? (i := 36) rfl)
theorem dX4_canGo_70 : decode cX4_canGo 70 = .ok (.getfield 44, 3) := da_48 (70, .getfield 44, 3) (List.mem_of_getElem? (i := 37) rfl)
theorem dX4_canGo_73 : decode cX4_canGo 73 = .ok (.iload 4, 2) := da_48 (73, .iload 4, 2) (List.mem_of_getElem? (i := 38) rfl)
theorem dX4_canGo_75 : decode cX4_canGo 75 = .ok (.iaload, 1) := da_48 (75, .iaload, 1) (List.mem_of_getElem? (i := 39) rfl)
theorem dX4_canGo_76 : decode cX4_canGo 76 = .ok (.iload 5, 2) := da_48 (76, .iload 5, 2) (List.mem_of_getElem? (i := 40) rfl)
theorem dX4_canGo_78 : decode cX4_canGo 78 = .ok (.if_icmp .ne 7, 3) := da_48 (78, .if_icmp .ne 7, 3) (List.mem_of_getElem? (i := 41) rfl)
theorem dX4_canGo_81 : decode cX4_canGo 81 = .ok (.iconst 1, 1) := da_48 (81, .iconst 1, 1) (List.mem_of_getElem? (i := 42) rfl)
theorem dX4_canGo_82 : decode cX4_canGo 82 = .ok (.goto 4, 3) := da_48 (82, .goto 4, 3) (List.mem_of_getElem? (i := 43) rfl)
theorem dX4_canGo_85 : decode cX4_canGo 85 = .ok (.iconst 0, 1) := da_48 (85, .iconst 0, 1) (List.mem_of_getElem? (i := 44) rfl)
theorem dX4_canGo_86 : decode cX4_canGo 86 = .ok (.ireturn, 1) := da_48 (86, .ireturn, 1) (List.mem_of_getElem? (i := 45) rfl)
set_option maxRecDepth 20000 in
theorem ggX4_trainAfter_X1_isOfKind : GoodIn wsX4_trainAfter wsX1_isOfKind := goodIn_r _ [9, 10, 11, 12, 13, 8, 14, 15, 24, 25, 26, 27, 28, 29, 30, 31, 32, 33, 34, 35] rfl (by decide +kernel)
set_option maxRecDepth 20000 in
theorem gX4_trainAfter_X1_isOfKind : GoodIn wsX4_trainAfter (wsV RX4 51 RX1 yX1_isOfKind wsX1_isOfKind) := goodIn_app (goodIn_r _ [5, 6, 7, 8] rfl (by decide +kernel)) ggX4_trainAfter_X1_isOfKind
def dq_49 : List (Nat × Jvm.ClassFile.Instr × Nat) := [(0, .iload_n 2, 1), (1, .iconst (-1), 1), (2, .if_icmp .eq 8, 3), (5, .iload_n 1, 1), (6, .iconst (-1), 1), (7, .if_icmp .ne 5, 3), (10, .iload_n 1, 1), (11, .ireturn, 1), (12, .aload_n 0, 1), (13, .getfield 34, 3), (16, .iload_n 2, 1), (17, .iconst 2, 1), (18, .invokevirtual 51, 3), (21, .ifCond .eq 24, 3), (24, .aload_n 0, 1), (25, .getfield 34, 3), (28, .getfield 44, 3), (31, .aload_n 0, 1), (32, .getfield 34, 3), (35, .getfield 55, 3), (38, .iload_n 2, 1), (39, .iaload, 1), (40, .iaload, 1), (41, .iload_n 1, 1), (42, .if_icmp .eq 5, 3), (45, .iconst (-1), 1), (46, .ireturn, 1), (47, .aload_n 0, 1), (48, .getfield 34, 3), (51, .getfield 44, 3), (54, .aload_n 0, 1), (55, .getfield 34, 3), (58, .getfield 58, 3), (61, .iload_n 2, 1), (62, .iaload, 1), (63, .iaload, 1), (64, .ireturn, 1)]
set_option maxRecDepth 20000 in
theorem da_49 : ∀ q ∈ dq_49, decode cX4_trainAfter q.1 = .ok (q.2.1, q.2.2) := by decide +kernel
theorem dX4_trainAfter_0 : decode cX4_trainAfter 0 = .ok (.iload_n 2, 1) := da_49 (0, .iload_n 2, 1) (List.mem_of_getElem? (i := 0) rfl)
theorem dX4_trainAfter_1 : decode cX4_trainAfter 1 = .ok (.iconst (-1), 1) := da_49 (1, .iconst (-1), 1) (List.mem_of_getElem? (i := 1) rfl)
theorem dX4_trainAfter_2 : decode cX4_trainAfter 2 = .ok (.if_icmp .eq 8, 3) := da_49 (2, .if_icmp .eq 8, 3) (List.mem_of_getElem? (i := 2) rfl)
theorem dX4_trainAfter_5 : decode cX4_trainAfter 5 = .ok (.iload_n 1, 1) := da_49 (5, .iload_n 1, 1) (List.mem_of_getElem? (i := 3) rfl)
theorem dX4_trainAfter_6 : decode cX4_trainAfter 6 = .ok (.iconst (-1), 1) := da_49 (6, .iconst (-1), 1) (List.mem_of_getElem? (i := 4) rfl)
theorem dX4_trainAfter_7 : decode cX4_trainAfter 7 = .ok (.if_icmp .ne 5, 3) := da_49 (7, .if_icmp .ne 5, 3) (List.mem_of_getElem? (i := 5) rfl)
theorem dX4_trainAfter_10 : decode cX4_trainAfter 10 = .ok (.iload_n 1, 1) := da_49 (10, .iload_n 1, 1) (List.mem_of_getElem? (i := 6) rfl)
theorem dX4_trainAfter_11 : decode cX4_trainAfter 11 = .ok (.ireturn, 1) := da_49 (11, .ireturn, 1) (List.mem_of_getElem? (i := 7) rfl)
theorem dX4_trainAfter_12 : decode cX4_trainAfter 12 = .ok (.aload_n 0, 1) := da_49 (12, .aload_n 0, 1) (List.mem_of_getElem? (i := 8) rfl)
theorem dX4_trainAfter_13 : decode cX4_trainAfter 13 = .ok (.getfield 34, 3) := da_49 (13, .getfield 34, 3) (List.mem_of_getElem? (i := 9) rfl)
theorem dX4_trainAfter_16 : decode cX4_trainAfter 16 = .ok (.iload_n 2, 1) := da_49 (16, .iload_n 2, 1) (List.mem_of_getElem? (i := 10) rfl)
theorem dX4_trainAfter_17 : decode cX4_trainAfter 17 = .ok (.iconst 2, 1) := da_49 (17, .iconst 2, 1) (List.mem_of_getElem? (i := 11) rfl)
theorem dX4_trainAfter_18 : decode cX4_trainAfter 18 = .ok (.invokevirtual 51, 3) := da_49 (18, .invokevirtual 51, 3) (List.mem_of_getElem? (i := 12) rfl)
theorem dX4_trainAfter_21 : decode cX4_trainAfter 21 = .ok (.ifCond .eq 24, 3) := da_49 (21, .ifCond .eq 24, 3) (List.mem_of_getElem? (i := 13) rfl)
theorem dX4_trainAfter_24 : decode cX4_trainAfter 24 = .ok (.aload_n 0, 1) := da_49 (24, .aload_n 0, 1) (List.mem_of_getElem? (i := 14) rfl)
theorem dX4_trainAfter_25 : decode cX4_trainAfter 25 = .ok (.getfield 34, 3) := da_49 (25, .getfield 34, 3) (List.mem_of_getElem? (i := 15) rfl)
theorem dX4_trainAfter_28 : decode cX4_trainAfter 28 = .ok (.getfield 44, 3) := da_49 (28, .getfield 44, 3) (List.mem_of_getElem? (i := 16) rfl)
theorem dX4_trainAfter_31 : decode cX4_trainAfter 31 = .ok (.aload_n 0, 1) := da_49 (31, .aload_n 0, 1) (List.mem_of_getElem? (i := 17) rfl)
theorem dX4_trainAfter_32 : decode cX4_trainAfter 32 = .ok (.getfield 34, 3) := da_49 (32, .getfield 34, 3) (List.mem_of_getElem? (i := 18) rfl)
theorem dX4_trainAfter_35 : decode cX4_trainAfter 35 = .ok (.getfield 55, 3) := da_49 (35, .getfield 55, 3) (List.mem_of_getElem? (i := 19) rfl)
theorem dX4_trainAfter_38 : decode cX4_trainAfter 38 = .ok (.iload_n 2, 1) := da_49 (38, .iload_n 2, 1) (List.mem_of_getElem? (i := 20) rfl)
theorem dX4_trainAfter_39 : decode cX4_trainAfter 39 = .ok (.iaload, 1) := da_49 (39, .iaload, 1) (List.mem_of_getElem? (i := 21) rfl)
theorem dX4_trainAfter_40 : decode cX4_trainAfter 40 = .ok (.iaload, 1) := da_49 (40, .iaload, 1) (List.mem_of_getElem? (i := 22) rfl)
theorem dX4_trainAfter_41 : decode cX4_trainAfter 41 = .ok (.iload_n 1, 1) := da_49 (41, .iload_n 1, 1) (List.mem_of_getElem? (i := 23) rfl)
theorem dX4_trainAfter_42 : decode cX4_trainAfter 42 = .ok (.if_icmp .eq 5, 3) := da_49 (42, .if_icmp .eq 5, 3) (List.mem_of_getElem? (i := 24) rfl)
theorem dX4_trainAfter_45 : decode cX4_trainAfter 45 = .ok (.iconst (-1), 1) := da_49 (45, .iconst (-1), 1) (List.mem_of_getElem? (i := 25) rfl)
theorem dX4_trainAfter_46 : decode cX4_trainAfter 46 = .ok (.ireturn, 1) := da_49 (46, .ireturn, 1) (List.mem_of_getElem? (i := 26) rfl)
theorem dX4_trainAfter_47 : decode cX4_trainAfter 47 = .ok (.aload_n 0, 1) := da_49 (47, .aload_n 0, 1) (List.mem_of_getElem? (i := 27) rfl)
theorem dX4_trainAfter_48 : decode cX4_trainAfter 48 = .ok (.getfield 34, 3) := da_49 (48, .getfield 34, 3) (List.mem_of_getElem? (i := 28) rfl)
theorem dX4_trainAfter_51 : decode cX4_trainAfter 51 = .ok (.getfield 44, 3) := da_49 (51, .getfield 44, 3) (List.mem_of_getElem? (i := 29) rfl)
theorem dX4_trainAfter_54 : decode cX4_trainAfter 54 = .ok (.aload_n 0, 1) := da_49 (54, .aload_n 0, 1) (List.mem_of_getElem? (i := 30) rfl)
theorem dX4_trainAfter_55 : decode cX4_trainAfter 55 = .ok (.getfield 34, 3) := da_49 (55, .getfield 34, 3) (List.mem_of_getElem? (i := 31) rfl)
theorem dX4_trainAfter_58 : decode cX4_trainAfter 58 = .ok (.getfield 58, 3) := da_49 (58, .getfield 58, 3) (List.mem_of_getElem? (i := 32) rfl)
theorem dX4_trainAfter_61 : decode cX4_trainAfter 61 = .ok (.iload_n 2, 1) := da_49 (61, .iload_n 2, 1) (List.mem_of_getElem? (i := 33) rfl)
theorem dX4_trainAfter_62 : decode cX4_trainAfter 62 = .ok (.iaload, 1) := da_49 (62, .iaload, 1) (List.mem_of_getElem? (i := 34) rfl)
theorem dX4_trainAfter_63 : decode cX4_trainAfter 63 = .ok (.iaload, 1) := da_49 (63, .iaload, 1) (List.mem_of_getElem? (i := 35) rfl)
theorem dX4_trainAfter_64 : decode cX4_trainAfter 64 = .ok (.ireturn, 1) := da_49 (64, .ireturn, 1) (List.mem_of_getElem? (i := 36) rfl)
def dq_50 : List (Nat × Jvm.ClassFile.Instr × Nat) := [(0, .aload_n 0, 1), (1, .getfield 9, 3), (4, .aload_n 0, 1), (5, .getfield 30, 3), (8, .iload_n 1, 1), (9, .iastore, 1), (10, .aload_n 0, 1), (11, .getfield 15, 3), (14, .aload_n 0, 1), (15, .getfield 30, 3), (18, .iload_n 2, 1), (19, .iastore, 1), (20, .aload_n 0, 1), (21, .getfield 18, 3), (24, .aload_n 0, 1), (25, .getfield 30, 3), (28, .iload_n 3, 1), (29, .iastore, 1), (30, .aload_n 0, 1), (31, .getfield 21, 3), (34, .aload_n 0, 1), (35, .getfield 30, 3), (38, .iload 4, 2), (40, .iastore, 1), (41, .aload_n 0, 1), (42, .getfield 24, 3), (45, .aload_n 0, 1), (46, .getfield 30, 3), (49, .iload 5, 2), (51, .iastore, 1), (52, .aload_n 0, 1), (53, .getfield 27, 3), (56, .aload_n 0, 1), (57, .getfield 30, 3), (60, .iload 6, 2), (62, .iastore, 1), (63, .aload_n 0, 1), (64, .dup, 1), (65, .getfield 30, 3), (68, .iconst 1, 1), (69, .iadd, 1), (70, .putfield 30, 3), (73, .aload_n 0, 1), (74, .getfield 30, 3), (77, .iconst 1, 1), (78, .isub, 1), (79, .ireturn, 1)]
set_option maxRecDepth 20000 in
theorem da_50 : ∀ q ∈ dq_50, decode cX4_add q.1 = .ok (q.2.1, q.2.2) := by decide +kernel
theorem dX4_add_0 : decode cX4_add 0 = .ok (.aload_n 0, 1) := da_50 (0, .aload_n 0, 1) (List.mem_of_getElem? (i := 0) rfl)
theorem dX4_add_1 : decode cX4_add 1 = .ok (.getfield 9, 3) := da_50 (1, .getfield 9, 3) (List.mem_of_getElem? (i := 1) rfl)
theorem dX4_add_4 : decode cX4_add 4 = .ok (.aload_n 0, 1) := da_50 (4, .aload_n 0, 1) (List.mem_of_getElem? (i := 2) rfl)
theorem dX4_add_5 : decode cX4_add 5 = .ok (.getfield 30, 3) := da_50 (5, .getfield 30, 3) (List.mem_of_getElem? (i := 3) rfl)
theorem dX4_add_8 : decode cX4_add 8 = .ok (.iload_n 1, 1) := da_50 (8, .iload_n 1, 1) (List.mem_of_getElem? (i := 4) rfl)
theorem dX4_add_9 : decode cX4_add 9 = .ok (.iastore, 1) := da_50 (9, .iastore, 1) (List.mem_of_getElem? (i := 5) rfl)
theorem dX4_add_10 : decode cX4_add 10 = .ok (.aload_n 0, 1) := da_50 (10, .aload_n 0, 1) (List.mem_of_getElem? (i := 6) rfl)
theorem dX4_add_11 : decode cX4_add 11 = .ok (.getfield 15, 3) := da_50 (11, .getfield 15, 3) (List.mem_of_getElem? (i := 7) rfl)
theorem dX4_add_14 : decode cX4_add 14 = .ok (.aload_n 0, 1) := da_50 (14, .aload_n 0, 1) (List.mem_of_getElem? (i := 8) rfl)
theorem dX4_add_15 : decode cX4_add 15 = .ok (.getfield 30, 3) := da_50 (15, .getfield 30, 3) (List.mem_of_getElem? (i := 9) rfl)
theorem dX4_add_18 : decode cX4_add 18 = .ok (.iload_n 2, 1) := da_50 (18, .iload_n 2, 1) (List.mem_of_getElem? (i := 10) rfl)
theorem dX4_add_19 : decode cX4_add 19 = .ok (.iastore, 1) := da_50 (19, .iastore, 1) (List.mem_of_getElem? (i := 11) rfl)
theorem dX4_add_20 : decode cX4_add 20 = .ok (.aload_n 0, 1) := da_50 (20, .aload_n 0, 1) (List.mem_of_getElem? (i := 12) rfl)
theorem dX4_add_21 : decode cX4_add 21 = .ok (.getfield 18, 3) := da_50 (21, .getfield 18, 3) (List.mem_of_getElem? (i := 13) rfl)
theorem dX4_add_24 : decode cX4_add 24 = .ok (.aload_n 0, 1) := da_50 (24, .aload_n 0, 1) (List.mem_of_getElem? (i := 14) rfl)
theorem dX4_add_25 : decode cX4_add 25 = .ok (.getfield 30, 3) := da_50 (25, .getfield 30, 3) (List.mem_of_getElem? (i := 15) rfl)
theorem dX4_add_28 : decode cX4_add 28 = .ok (.iload_n 3, 1) := da_50 (28, .iload_n 3, 1) (List.mem_of_getElem? (i := 16) rfl)
theorem dX4_add_29 : decode cX4_add 29 = .ok (.iastore, 1) := da_50 (29, .iastore, 1) (List.mem_of_getElem? (i := 17) rfl)
theorem dX4_add_30 : decode cX4_add 30 = .ok (.aload_n 0, 1) := da_50 (30, .aload_n 0, 1) (List.mem_of_getElem? (i := 18) rfl)
theorem dX4_add_31 : decode cX4_add 31 = .ok (.getfield 21, 3) := da_50 (31, .getfield 21, 3) (List.mem_of_getElem? (i := 19) rfl)
theorem dX4_add_34 : decode cX4_add 34 = .ok (.aload_n 0, 1) := da_50 (34, .aload_n 0, 1) (List.mem_of_getElem? (i := 20) rfl)
theorem dX4_add_35 : decode cX4_add 35 = .ok (.getfield 30, 3) := da_50 (35, .getfield 30, 3) (List.mem_of_getElem? (i := 21) rfl)
theorem dX4_add_38 : decode cX4_add 38 = .ok (.iload 4, 2) := da_50 (38, .iload 4, 2) (List.mem_of_getElem? (i := 22) rfl)
theorem dX4_add_40 : decode cX4_add 40 = .ok (.iastore, 1) := da_50 (40, .iastore, 1) (List.mem_of_getElem? (i := 23) rfl)
theorem dX4_add_41 : decode cX4_add 41 = .ok (.aload_n 0, 1) := da_50 (41, .aload_n 0, 1) (List.mem_of_getElem? (i := 24) rfl)
theorem dX4_add_42 : decode cX4_add 42 = .ok (.getfield 24, 3) := da_50 (42, .getfield 24, 3) (List.mem_of_getElem? (i := 25) rfl)
theorem dX4_add_45 : decode cX4_add 45 = .ok (.aload_n 0, 1) := da_50 (45, .aload_n 0, 1) (List.mem_of_getElem? (i := 26) rfl)
theorem dX4_add_46 : decode cX4_add 46 = .ok (.getfield 30, 3) := da_50 (46, .getfield 30, 3) (List.mem_of_getElem? (i := 27) rfl)
theorem dX4_add_49 : decode cX4_add 49 = .ok (.iload 5, 2) := da_50 (49, .iload 5, 2) (List.mem_of_getElem? (i := 28) rfl)
theorem dX4_add_51 : decode cX4_add 51 = .ok (.iastore, 1) := da_50 (51, .iastore, 1) (List.mem_of_getElem? (i := 29) rfl)
theorem dX4_add_52 : decode cX4_add 52 = .ok (.aload_n 0, 1) := da_50 (52, .aload_n 0, 1) (List.mem_of_getElem? (i := 30) rfl)
theorem dX4_add_53 : decode cX4_add 53 = .ok (.getfield 27, 3) := da_50 (53, .getfield 27, 3) (List.mem_of_getElem? (i := 31) rfl)
theorem dX4_add_56 : decode cX4_add 56 = .ok (.aload_n 0, 1) := da_50 (56, .aload_n 0, 1) (List.mem_of_getElem? (i := 32) rfl)
theorem dX4_add_57 : decode cX4_add 57 = .ok (.getfield 30, 3) := da_50 (57, .getfield 30, 3) (List.mem_of_getElem? (i := 33) rfl)
theorem dX4_add_60 : decode cX4_add 60 = .ok (.iload 6, 2) := da_50 (60, .iload 6, 2) (List.mem_of_getElem? (i := 34) rfl)
theorem dX4_add_62 : decode cX4_add 62 = .ok (.iastore, 1) := da_50 (62, .iastore, 1) (List.mem_of_getElem? (i := 35) rfl)
theorem dX4_add_63 : decode cX4_add 63 = .ok (.aload_n 0, 1) := da_50 (63, .aload_n 0, 1) (List.mem_of_getElem? (i := 36) rfl)
theorem dX4_add_64 : decode cX4_add 64 = .ok (.dup, 1) := da_50 (64, .dup, 1) (List.mem_of_getElem? (i := 37) rfl)
theorem dX4_add_65 : decode cX4_add 65 = .ok (.getfield 30, 3) := da_50 (65, .getfield 30, 3) (List.mem_of_getElem? (i := 38) rfl)
theorem dX4_add_68 : decode cX4_add 68 = .ok (.iconst 1, 1) := da_50 (68, .iconst 1, 1) (List.mem_of_getElem? (i := 39) rfl)
theorem dX4_add_69 : decode cX4_add 69 = .ok (.iadd, 1) := da_50 (69, .iadd, 1) (List.mem_of_getElem? (i := 40) rfl)
theorem dX4_add_70 : decode cX4_add 70 = .ok (.putfield 30, 3) := da_50 (70, .putfield 30, 3) (List.mem_of_getElem? (i := 41) rfl)
theorem dX4_add_73 : decode cX4_add 73 = .ok (.aload_n 0, 1) := da_50 (73, .aload_n 0, 1) (List.mem_of_getElem? (i := 42) rfl)
theorem dX4_add_74 : decode cX4_add 74 = .ok (.getfield 30, 3) := da_50 (74, .getfield 30, 3) (List.mem_of_getElem? (i := 43) rfl)
theorem dX4_add_77 : decode cX4_add 77 = .ok (.iconst 1, 1) := da_50 (77, .iconst 1, 1) (List.mem_of_getElem? (i := 44) rfl)
theorem dX4_add_78 : decode cX4_add 78 = .ok (.isub, 1) := da_50 (78, .isub, 1) (List.mem_of_getElem? (i := 45) rfl)
theorem dX4_add_79 : decode cX4_add 79 = .ok (.ireturn, 1) := da_50 (79, .ireturn, 1) (List.mem_of_getElem? (i := 46) rfl)
set_option maxRecDepth 20000 in
theorem ggX4_isStranded_X4_fails : GoodIn wsX4_isStranded wsX4_fails := goodIn_r _ [10, 1, 11, 12, 2, 13, 14, 15, 16, 17, 18, 19, 20, 21, 22, 23, 24, 25, 26, 27, 28, 29, 30, 31, 32, 33, 34] rfl (by decide +kernel)
set_option maxRecDepth 20000 in
theorem gX4_isStranded_X4_fails : GoodIn wsX4_isStranded (wsV RX4 65 RX4 yX4_fails wsX4_fails) := goodIn_app (goodIn_r _ [6, 7, 8, 9] rfl (by decide +kernel)) ggX4_isStranded_X4_fails
def dq_51 : List (Nat × Jvm.ClassFile.Instr × Nat) := [(0, .aload_n 0, 1), (1, .getfield 34, 3), (4, .getfield 61, 3), (7, .aload_n 0, 1), (8, .getfield 15, 3), (11, .iload_n 1, 1), (12, .iaload, 1), (13, .baload, 1), (14, .ifCond .eq 31, 3), (17, .aload_n 0, 1), (18, .aload_n 0, 1), (19, .getfield 18, 3), (22, .iload_n 1, 1), (23, .iaload, 1), (24, .aload_n 2, 1), (25, .invokevirtual 65, 3), (28, .ifCond .ne 17, 3), (31, .aload_n 0, 1), (32, .aload_n 0, 1), (33, .getfield 21, 3), (36, .iload_n 1, 1), (37, .iaload, 1), (38, .aload_n 2, 1), (39, .invokevirtual 65, 3), (42, .ifCond .eq 7, 3), (45, .iconst 1, 1), (46, .goto 4, 3), (49, .iconst 0, 1), (50, .ireturn, 1)]
set_option maxRecDepth 20000 in
theorem da_51 : ∀ q ∈ dq_51, decode cX4_isStranded q.1 = .ok (q.2.1, q.2.2) := by decide +kernel
theorem dX4_isStranded_0 : decode cX4_isStranded 0 = .ok (.aload_n 0, 1) := da_51 (0, .aload_n 0, 1) (List.mem_of_getElem? (i := 0) rfl)
theorem dX4_isStranded_1 : decode cX4_isStranded 1 = .ok (.getfield 34, 3) := da_51 (1, .getfield 34, 3) (List.mem_of_getElem? (i := 1) rfl)
theorem dX4_isStranded_4 : decode cX4_isStranded 4 = .ok (.getfield 61, 3) := da_51 (4, .getfield 61, 3) (List.mem_of_getElem? (i := 2) rfl)
theorem dX4_isStranded_7 : decode cX4_isStranded 7 = .ok (.aload_n 0, 1) := da_51 (7, .aload_n 0, 1) (List.mem_of_getElem? (i := 3) rfl)
theorem dX4_isStranded_8 : decode cX4_isStranded 8 = .ok (.getfield 15, 3) := da_51 (8, .getfield 15, 3) (List.mem_of_getElem? (i := 4) rfl)
theorem dX4_isStranded_11 : decode cX4_isStranded 11 = .ok (.iload_n 1, 1) := da_51 (11, .iload_n 1, 1) (List.mem_of_getElem? (i := 5) rfl)
theorem dX4_isStranded_12 : decode cX4_isStranded 12 = .ok (.iaload, 1) := da_51 (12, .iaload, 1) (List.mem_of_getElem? (i := 6) rfl)
theorem dX4_isStranded_13 : decode cX4_isStranded 13 = .ok (.baload, 1) := da_51 (13, .baload, 1) (List.mem_of_getElem? (i := 7) rfl)
theorem dX4_isStranded_14 : decode cX4_isStranded 14 = .ok (.ifCond .eq 31, 3) := da_51 (14, .ifCond .eq 31, 3) (List.mem_of_getElem? (i := 8) rfl)
theorem dX4_isStranded_17 : decode cX4_isStranded 17 = .ok (.aload_n 0, 1) := da_51 (17, .aload_n 0, 1) (List.mem_of_getElem? (i := 9) rfl)
theorem dX4_isStranded_18 : decode cX4_isStranded 18 = .ok (.aload_n 0, 1) := da_51 (18, .aload_n 0, 1) (List.mem_of_getElem? (i := 10) rfl)
theorem dX4_isStranded_19 : decode cX4_isStranded 19 = .ok (.getfield 18, 3) := da_51 (19, .getfield 18, 3) (List.mem_of_getElem? (i := 11) rfl)
theorem dX4_isStranded_22 : decode cX4_isStranded 22 = .ok (.iload_n 1, 1) := da_51 (22, .iload_n 1, 1) (List.mem_of_getElem? (i := 12) rfl)
theorem dX4_isStranded_23 : decode cX4_isStranded 23 = .ok (.iaload, 1) := da_51 (23, .iaload, 1) (List.mem_of_getElem? (i := 13) rfl)
theorem dX4_isStranded_24 : decode cX4_isStranded 24 = .ok (.aload_n 2, 1) := da_51 (24, .aload_n 2, 1) (List.mem_of_getElem? (i := 14) rfl)
theorem dX4_isStranded_25 : decode cX4_isStranded 25 = .ok (.invokevirtual 65, 3) := da_51 (25, .invokevirtual 65, 3) (List.mem_of_getElem? (i := 15) rfl)
theorem dX4_isStranded_28 : decode cX4_isStranded 28 = .ok (.ifCond .ne 17, 3) := da_51 (28, .ifCond .ne 17, 3) (List.mem_of_getElem? (i := 16) rfl)
theorem dX4_isStranded_31 : decode cX4_isStranded 31 = .ok (.aload_n 0, 1) := da_51 (31, .aload_n 0, 1) (List.mem_of_getElem? (i := 17) rfl)
theorem dX4_isStranded_32 : decode cX4_isStranded 32 = .ok (.aload_n 0, 1) := da_51 (32, .aload_n 0, 1) (List.mem_of_getElem? (i := 18) rfl)
theorem dX4_isStranded_33 : decode cX4_isStranded 33 = .ok (.getfield 21, 3) := da_51 (33, .getfield 21, 3) (List.mem_of_getElem? (i := 19) rfl)
theorem dX4_isStranded_36 : decode cX4_isStranded 36 = .ok (.iload_n 1, 1) := da_51 (36, .iload_n 1, 1) (List.mem_of_getElem? (i := 20) rfl)
theorem dX4_isStranded_37 : decode cX4_isStranded 37 = .ok (.iaload, 1) := da_51 (37, .iaload, 1) (List.mem_of_getElem? (i := 21) rfl)
theorem dX4_isStranded_38 : decode cX4_isStranded 38 = .ok (.aload_n 2, 1) := da_51 (38, .aload_n 2, 1) (List.mem_of_getElem? (i := 22) rfl)
theorem dX4_isStranded_39 : decode cX4_isStranded 39 = .ok (.invokevirtual 65, 3) := da_51 (39, .invokevirtual 65, 3) (List.mem_of_getElem? (i := 23) rfl)
theorem dX4_isStranded_42 : decode cX4_isStranded 42 = .ok (.ifCond .eq 7, 3) := da_51 (42, .ifCond .eq 7, 3) (List.mem_of_getElem? (i := 24) rfl)
theorem dX4_isStranded_45 : decode cX4_isStranded 45 = .ok (.iconst 1, 1) := da_51 (45, .iconst 1, 1) (List.mem_of_getElem? (i := 25) rfl)
theorem dX4_isStranded_46 : decode cX4_isStranded 46 = .ok (.goto 4, 3) := da_51 (46, .goto 4, 3) (List.mem_of_getElem? (i := 26) rfl)
theorem dX4_isStranded_49 : decode cX4_isStranded 49 = .ok (.iconst 0, 1) := da_51 (49, .iconst 0, 1) (List.mem_of_getElem? (i := 27) rfl)
theorem dX4_isStranded_50 : decode cX4_isStranded 50 = .ok (.ireturn, 1) := da_51 (50, .ireturn, 1) (List.mem_of_getElem? (i := 28) rfl)
def dq_52 : List (Nat × Jvm.ClassFile.Instr × Nat) := [(0, .iload_n 1, 1), (1, .iconst (-1), 1), (2, .if_icmp .ne 5, 3), (5, .iconst 0, 1), (6, .ireturn, 1), (7, .aload_n 0, 1), (8, .getfield 34, 3), (11, .getfield 55, 3), (14, .iload_n 1, 1), (15, .iaload, 1), (16, .istore_n 3, 1), (17, .aload_n 0, 1), (18, .getfield 34, 3), (21, .getfield 58, 3), (24, .iload_n 1, 1), (25, .iaload, 1), (26, .istore 4, 2), (28, .aload_n 0, 1), (29, .getfield 34, 3), (32, .getfield 61, 3), (35, .iload 4, 2), (37, .baload, 1), (38, .ifCond .eq 35, 3), (41, .aload_n 0, 1), (42, .getfield 34, 3), (45, .getfield 69, 3), (48, .iload_n 1, 1), (49, .baload, 1), (50, .ifCond .ne 27, 3), (53, .aload_n 2, 1), (54, .iload 4, 2), (56, .iaload, 1), (57, .aload_n 2, 1), (58, .iload_n 3, 1), (59, .iaload, 1), (60, .aload_n 0, 1), (61, .getfield 34, 3), (64, .getfield 72, 3), (67, .iload_n 1, 1), (68, .iaload, 1), (69, .iadd, 1), (70, .if_icmp .ge 7, 3), (73, .iconst 1, 1), (74, .goto 4, 3), (77, .iconst 0, 1), (78, .ireturn, 1)]
set_option maxRecDepth 20000 in
theorem da_52 : ∀ q ∈ dq_52, decode cX4_fails q.1 = .ok (q.2.1, q.2.2) := by decide +kernel
theorem dX4_fails_0 : decode cX4_fails 0 = .ok (.iload_n 1, 1) := da_52 (0, .iload_n 1, 1) (List.mem_of_getElem? (i := 0) rfl)
theorem dX4_fails_1 : decode cX4_fails 1 = .ok (.iconst (-1), 1) := da_52 (1, .iconst (-1), 1) (List.mem_of_getElem? (i := 1) rfl)
theorem dX4_fails_2 : decode cX4_fails 2 = .ok (.if_icmp .ne 5, 3) := da_52 (2, .if_icmp .ne 5, 3) (List.mem_of_getElem? (i := 2) rfl)
theorem dX4_fails_5 : decode cX4_fails 5 = .ok (.iconst 0, 1) := da_52 (5, .iconst 0, 1) (List.mem_of_getElem? (i := 3) rfl)
theorem dX4_fails_6 : decode cX4_fails 6 = .ok (.ireturn, 1) := da_52 (6, .ireturn, 1) (List.mem_of_getElem? (i := 4) rfl)
theorem dX4_fails_7 : decode cX4_fails 7 = .ok (.aload_n 0, 1) := da_52 (7, .aload_n 0, 1) (List.mem_of_getElem? (i := 5) rfl)
theorem dX4_fails_8 : decode cX4_fails 8 = .ok (.getfield 34, 3) := da_52 (8, .getfield 34, 3) (List.mem_of_getElem? (i := 6) rfl)
theorem dX4_fails_11 : decode cX4_fails 11 = .ok (.getfield 55, 3) := da_52 (11, .getfield 55, 3) (List.mem_of_getElem? (i := 7) rfl)
theorem dX4_fails_14 : decode cX4_fails 14 = .ok (.iload_n 1, 1) := da_52 (14, .iload_n 1, 1) (List.mem_of_getElem? (i := 8) rfl)
theorem dX4_fails_15 : decode cX4_fails 15 = .ok (.iaload, 1) := da_52 (15, .iaload, 1) (List.mem_of_getElem? (i := 9) rfl)
theorem dX4_fails_16 : decode cX4_fails 16 = .ok (.istore_n 3, 1) := da_52 (16, .istore_n 3, 1) (List.mem_of_getElem? (i := 10) rfl)
theorem dX4_fails_17 : decode cX4_fails 17 = .ok (.aload_n 0, 1) := da_52 (17, .aload_n 0, 1) (List.mem_of_getElem? (i := 11) rfl)
theorem dX4_fails_18 : decode cX4_fails 18 = .ok (.getfield 34, 3) := da_52 (18, .getfield 34, 3) (List.mem_of_getElem? (i := 12) rfl)
theorem dX4_fails_21 : decode cX4_fails 21 = .ok (.getfield 58, 3) := da_52 (21, .getfield 58, 3) (List.mem_of_getElem? (i := 13) rfl)
theorem dX4_fails_24 : decode cX4_fails 24 = .ok (.iload_n 1, 1) := da_52 (24, .iload_n 1, 1) (List.mem_of_getElem? (i := 14) rfl)
theorem dX4_fails_25 : decode cX4_fails 25 = .ok (.iaload, 1) := da_52 (25, .iaload, 1) (List.mem_of_getElem? (i := 15) rfl)
theorem dX4_fails_26 : decode cX4_fails 26 = .ok (.istore 4, 2) := da_52 (26, .istore 4, 2) (List.mem_of_getElem? (i := 16) rfl)
theorem dX4_fails_28 : decode cX4_fails 28 = .ok (.aload_n 0, 1) := da_52 (28, .aload_n 0, 1) (List.mem_of_getElem? (i := 17) rfl)
theorem dX4_fails_29 : decode cX4_fails 29 = .ok (.getfield 34, 3) := da_52 (29, .getfield 34, 3) (List.mem_of_getElem? (i := 18) rfl)
theorem dX4_fails_32 : decode cX4_fails 32 = .ok (.getfield 61, 3) := da_52 (32, .getfield 61, 3) (List.mem_of_getElem? (i := 19) rfl)
theorem dX4_fails_35 : decode cX4_fails 35 = .ok (.iload 4, 2) := da_52 (35, .iload 4, 2) (List.mem_of_getElem? (i := 20) rfl)
theorem dX4_fails_37 : decode cX4_fails 37 = .ok (.baload, 1) := da_52 (37, .baload, 1) (List.mem_of_getElem? (i := 21) rfl)
theorem dX4_fails_38 : decode cX4_fails 38 = .ok (.ifCond .eq 35, 3) := da_52 (38, .ifCond .eq 35, 3) (List.mem_of_getElem? (i := 22) rfl)
theorem dX4_fails_41 : decode cX4_fails 41 = .ok (.aload_n 0, 1) := da_52 (41, .aload_n 0, 1) (List.mem_of_getElem? (i := 23) rfl)
theorem dX4_fails_42 : decode cX4_fails 42 = .ok (.getfield 34, 3) := da_52 (42, .getfield 34, 3) (List.mem_of_getElem? (i := 24) rfl)
theorem dX4_fails_45 : decode cX4_fails 45 = .ok (.getfield 69, 3) := da_52 (45, .getfield 69, 3) (List.mem_of_getElem? (i := 25) rfl)
theorem dX4_fails_48 : decode cX4_fails 48 = .ok (.iload_n 1, 1) := da_52 (48, .iload_n 1, 1) (List.mem_of_getElem? (i := 26) rfl)
theorem dX4_fails_49 : decode cX4_fails 49 = .ok (.baload, 1) := da_52 (49, .baload, 1) (List.mem_of_getElem? (i := 27) rfl)
theorem dX4_fails_50 : decode cX4_fails 50 = .ok (.ifCond .ne 27, 3) := da_52 (50, .ifCond .ne 27, 3) (List.mem_of_getElem? (i := 28) rfl)
theorem dX4_fails_53 : decode cX4_fails 53 = .ok (.aload_n 2, 1) := da_52 (53, .aload_n 2, 1) (List.mem_of_getElem? (i := 29) rfl)
theorem dX4_fails_54 : decode cX4_fails 54 = .ok (.iload 4, 2) := da_52 (54, .iload 4, 2) (List.mem_of_getElem? (i := 30) rfl)
theorem dX4_fails_56 : decode cX4_fails 56 = .ok (.iaload, 1) := da_52 (56, .iaload, 1) (List.mem_of_getElem? (i := 31) rfl)
theorem dX4_fails_57 : decode cX4_fails 57 = .ok (.aload_n 2, 1) := da_52 (57, .aload_n 2, 1) (List.mem_of_getElem? (i := 32) rfl)
theorem dX4_fails_58 : decode cX4_fails 58 = .ok (.iload_n 3, 1) := da_52 (58, .iload_n 3, 1) (List.mem_of_getElem? (i := 33) rfl)
theorem dX4_fails_59 : decode cX4_fails 59 = .ok (.iaload, 1) := da_52 (59, .iaload, 1) (List.mem_of_getElem? (i := 34) rfl)
theorem dX4_fails_60 : decode cX4_fails 60 = .ok (.aload_n 0, 1) := da_52 (60, .aload_n 0, 1) (List.mem_of_getElem? (i := 35) rfl)
theorem dX4_fails_61 : decode cX4_fails 61 = .ok (.getfield 34, 3) := da_52 (61, .getfield 34, 3) (List.mem_of_getElem? (i := 36) rfl)
theorem dX4_fails_64 : decode cX4_fails 64 = .ok (.getfield 72, 3) := da_52 (64, .getfield 72, 3) (List.mem_of_getElem? (i := 37) rfl)
theorem dX4_fails_67 : decode cX4_fails 67 = .ok (.iload_n 1, 1) := da_52 (67, .iload_n 1, 1) (List.mem_of_getElem? (i := 38) rfl)
theorem dX4_fails_68 : decode cX4_fails 68 = .ok (.iaload, 1) := da_52 (68, .iaload, 1) (List.mem_of_getElem? (i := 39) rfl)
theorem dX4_fails_69 : decode cX4_fails 69 = .ok (.iadd, 1) := da_52 (69, .iadd, 1) (List.mem_of_getElem? (i := 40) rfl)
theorem dX4_fails_70 : decode cX4_fails 70 = .ok (.if_icmp .ge 7, 3) := da_52 (70, .if_icmp .ge 7, 3) (List.mem_of_getElem? (i := 41) rfl)
theorem dX4_fails_73 : decode cX4_fails 73 = .ok (.iconst 1, 1) := da_52 (73, .iconst 1, 1) (List.mem_of_getElem? (i := 42) rfl)
theorem dX4_fails_74 : decode cX4_fails 74 = .ok (.goto 4, 3) := da_52 (74, .goto 4, 3) (List.mem_of_getElem? (i := 43) rfl)
theorem dX4_fails_77 : decode cX4_fails 77 = .ok (.iconst 0, 1) := da_52 (77, .iconst 0, 1) (List.mem_of_getElem? (i := 44) rfl)
theorem dX4_fails_78 : decode cX4_fails 78 = .ok (.ireturn, 1) := da_52 (78, .ireturn, 1) (List.mem_of_getElem? (i := 45) rfl)
set_option maxRecDepth 20000 in
theorem ggX4_lateness_X4_isStranded : GoodIn wsX4_lateness wsX4_isStranded := goodIn_r _ [9, 3, 10, 11, 12, 13, 14, 15, 16, 8, 17, 18, 19, 20, 21, 22, 23, 24, 25, 26, 27, 28, 29, 30, 31, 32, 33, 34, 35, 36, 37, 38, 39, 40, 41] rfl (by decide +kernel)
set_option maxRecDepth 20000 in
theorem gX4_lateness_X4_isStranded : GoodIn wsX4_lateness (wsV RX4 75 RX4 yX4_isStranded wsX4_isStranded) := goodIn_app (goodIn_r _ [5, 6, 7, 8] rfl (by decide +kernel)) ggX4_lateness_X4_isStranded
def dq_53 : List (Nat × Jvm.ClassFile.Instr × Nat) := [(0, .aload_n 0, 1), (1, .iload_n 1, 1), (2, .aload_n 2, 1), (3, .invokevirtual 75, 3), (6, .ifCond .eq 12, 3), (9, .aload_n 0, 1), (10, .getfield 27, 3), (13, .iload_n 1, 1), (14, .iaload, 1), (15, .goto 26, 3), (18, .aload_n 2, 1), (19, .aload_n 0, 1), (20, .getfield 24, 3), (23, .iload_n 1, 1), (24, .iaload, 1), (25, .iaload, 1), (26, .aload_n 0, 1), (27, .getfield 34, 3), (30, .getfield 78, 3), (33, .aload_n 0, 1), (34, .getfield 24, 3), (37, .iload_n 1, 1), (38, .iaload, 1), (39, .iaload, 1), (40, .isub, 1), (41, .ireturn, 1)]
set_option maxRecDepth 20000 in
theorem da_53 : ∀ q ∈ dq_53, decode cX4_lateness q.1 = .ok (q.2.1, q.2.2) := by decide +kernel
theorem dX4_lateness_0 : decode cX4_lateness 0 = .ok (.aload_n 0, 1) := da_53 (0, .aload_n 0, 1) (List.mem_of_getElem? (i := 0) rfl)
theorem dX4_lateness_1 : decode cX4_lateness 1 = .ok (.iload_n 1, 1) := da_53 (1, .iload_n 1, 1) (List.mem_of_getElem? (i := 1) rfl)
theorem dX4_lateness_2 : decode cX4_lateness 2 = .ok (.aload_n 2, 1) := da_53 (2, .aload_n 2, 1) (List.mem_of_getElem? (i := 2) rfl)
theorem dX4_lateness_3 : decode cX4_lateness 3 = .ok (.invokevirtual 75, 3) := da_53 (3, .invokevirtual 75, 3) (List.mem_of_getElem? (i := 3) rfl)
theorem dX4_lateness_6 : decode cX4_lateness 6 = .ok (.ifCond .eq 12, 3) := da_53 (6, .ifCond .eq 12, 3) (List.mem_of_getElem? (i := 4) rfl)
theorem dX4_lateness_9 : decode cX4_lateness 9 = .ok (.aload_n 0, 1) := da_53 (9, .aload_n 0, 1) (List.mem_of_getElem? (i := 5) rfl)
theorem dX4_lateness_10 : decode cX4_lateness 10 = .ok (.getfield 27, 3) := da_53 (10, .getfield 27, 3) (List.mem_of_getElem? (i := 6) rfl)
theorem dX4_lateness_13 : decode cX4_lateness 13 = .ok (.iload_n 1, 1) := da_53 (13, .iload_n 1, 1) (List.mem_of_getElem? (i := 7) rfl)
theorem dX4_lateness_14 : decode cX4_lateness 14 = .ok (.iaload, 1) := da_53 (14, .iaload, 1) (List.mem_of_getElem? (i := 8) rfl)
theorem dX4_lateness_15 : decode cX4_lateness 15 = .ok (.goto 26, 3) := da_53 (15, .goto 26, 3) (List.mem_of_getElem? (i := 9) rfl)
theorem dX4_lateness_18 : decode cX4_lateness 18 = .ok (.aload_n 2, 1) := da_53 (18, .aload_n 2, 1) (List.mem_of_getElem? (i := 10) rfl)
theorem dX4_lateness_19 : decode cX4_lateness 19 = .ok (.aload_n 0, 1) := da_53 (19, .aload_n 0, 1) (List.mem_of_getElem? (i := 11) rfl)
theorem dX4_lateness_20 : decode cX4_lateness 20 = .ok (.getfield 24, 3) := da_53 (20, .getfield 24, 3) (List.mem_of_getElem? (i := 12) rfl)
theorem dX4_lateness_23 : decode cX4_lateness 23 = .ok (.iload_n 1, 1) := da_53 (23, .iload_n 1, 1) (List.mem_of_getElem? (i := 13) rfl)
theorem dX4_lateness_24 : decode cX4_lateness 24 = .ok (.iaload, 1) := da_53 (24, .iaload, 1) (List.mem_of_getElem? (i := 14) rfl)
theorem dX4_lateness_25 : decode cX4_lateness 25 = .ok (.iaload, 1) := da_53 (25, .iaload, 1) (List.mem_of_getElem? (i := 15) rfl)
theorem dX4_lateness_26 : decode cX4_lateness 26 = .ok (.aload_n 0, 1) := da_53 (26, .aload_n 0, 1) (List.mem_of_getElem? (i := 16) rfl)
theorem dX4_lateness_27 : decode cX4_lateness 27 = .ok (.getfield 34, 3) := da_53 (27, .getfield 34, 3) (List.mem_of_getElem? (i := 17) rfl)
theorem dX4_lateness_30 : decode cX4_lateness 30 = .ok (.getfield 78, 3) := da_53 (30, .getfield 78, 3) (List.mem_of_getElem? (i := 18) rfl)
theorem dX4_lateness_33 : decode cX4_lateness 33 = .ok (.aload_n 0, 1) := da_53 (33, .aload_n 0, 1) (List.mem_of_getElem? (i := 19) rfl)
theorem dX4_lateness_34 : decode cX4_lateness 34 = .ok (.getfield 24, 3) := da_53 (34, .getfield 24, 3) (List.mem_of_getElem? (i := 20) rfl)
theorem dX4_lateness_37 : decode cX4_lateness 37 = .ok (.iload_n 1, 1) := da_53 (37, .iload_n 1, 1) (List.mem_of_getElem? (i := 21) rfl)
theorem dX4_lateness_38 : decode cX4_lateness 38 = .ok (.iaload, 1) := da_53 (38, .iaload, 1) (List.mem_of_getElem? (i := 22) rfl)
theorem dX4_lateness_39 : decode cX4_lateness 39 = .ok (.iaload, 1) := da_53 (39, .iaload, 1) (List.mem_of_getElem? (i := 23) rfl)
theorem dX4_lateness_40 : decode cX4_lateness 40 = .ok (.isub, 1) := da_53 (40, .isub, 1) (List.mem_of_getElem? (i := 24) rfl)
theorem dX4_lateness_41 : decode cX4_lateness 41 = .ok (.ireturn, 1) := da_53 (41, .ireturn, 1) (List.mem_of_getElem? (i := 25) rfl)
set_option maxRecDepth 20000 in
theorem ggX4_sum_X4_lateness : GoodIn wsX4_sum wsX4_lateness := goodIn_r _ [7, 8, 9, 10, 11, 12, 13, 14, 6, 15, 16, 17, 18, 19, 20, 21, 22, 23, 24, 25, 26, 27, 28, 29, 30, 31, 32, 33, 34, 35, 36, 37, 38, 39, 40, 41, 42, 43, 44, 45, 46, 47] rfl (by decide +kernel)
set_option maxRecDepth 20000 in
theorem gX4_sum_X4_lateness : GoodIn wsX4_sum (wsV RX4 81 RX4 yX4_lateness wsX4_lateness) := goodIn_app (goodIn_r _ [3, 4, 5, 6] rfl (by decide +kernel)) ggX4_sum_X4_lateness
def dq_54 : List (Nat × Jvm.ClassFile.Instr × Nat) := [(0, .lconst 0, 1), (1, .lstore_n 2, 1), (2, .iconst 0, 1), (3, .istore 4, 2), (5, .iload 4, 2), (7, .aload_n 0, 1), (8, .getfield 30, 3), (11, .if_icmp .ge 29, 3), (14, .lload_n 2, 1), (15, .aload_n 0, 1), (16, .getfield 9, 3), (19, .iload 4, 2), (21, .iaload, 1), (22, .i2l, 1), (23, .aload_n 0, 1), (24, .iload 4, 2), (26, .aload_n 1, 1), (27, .invokevirtual 81, 3), (30, .i2l, 1), (31, .lmul, 1), (32, .ladd, 1), (33, .lstore_n 2, 1), (34, .iinc 4 1, 3), (37, .goto (-32), 3), (40, .lload_n 2, 1), (41, .lreturn, 1)]
set_option maxRecDepth 20000 in
theorem da_54 : ∀ q ∈ dq_54, decode cX4_sum q.1 = .ok (q.2.1, q.2.2) := by decide +kernel
theorem dX4_sum_0 : decode cX4_sum 0 = .ok (.lconst 0, 1) := da_54 (0, .lconst 0, 1) (List.mem_of_getElem? (i := 0) rfl)
theorem dX4_sum_1 : decode cX4_sum 1 = .ok (.lstore_n 2, 1) := da_54 (1, .lstore_n 2, 1) (List.mem_of_getElem? (i := 1) rfl)
theorem dX4_sum_2 : decode cX4_sum 2 = .ok (.iconst 0, 1) := da_54 (2, .iconst 0, 1) (List.mem_of_getElem? (i := 2) rfl)
theorem dX4_sum_3 : decode cX4_sum 3 = .ok (.istore 4, 2) := da_54 (3, .istore 4, 2) (List.mem_of_getElem? (i := 3) rfl)
theorem dX4_sum_5 : decode cX4_sum 5 = .ok (.iload 4, 2) := da_54 (5, .iload 4, 2) (List.mem_of_getElem? (i := 4) rfl)
theorem dX4_sum_7 : decode cX4_sum 7 = .ok (.aload_n 0, 1) := da_54 (7, .aload_n 0, 1) (List.mem_of_getElem? (i := 5) rfl)
theorem dX4_sum_8 : decode cX4_sum 8 = .ok (.getfield 30, 3) := da_54 (8, .getfield 30, 3) (List.mem_of_getElem? (i := 6) rfl)
theorem dX4_sum_11 : decode cX4_sum 11 = .ok (.if_icmp .ge 29, 3) := da_54 (11, .if_icmp .ge 29, 3) (List.mem_of_getElem? (i := 7) rfl)
theorem dX4_sum_14 : decode cX4_sum 14 = .ok (.lload_n 2, 1) := da_54 (14, .lload_n 2, 1) (List.mem_of_getElem? (i := 8) rfl)
theorem dX4_sum_15 : decode cX4_sum 15 = .ok (.aload_n 0, 1) := da_54 (15, .aload_n 0, 1) (List.mem_of_getElem? (i := 9) rfl)
theorem dX4_sum_16 : decode cX4_sum 16 = .ok (.getfield 9, 3) := da_54 (16, .getfield 9, 3) (List.mem_of_getElem? (i := 10) rfl)
theorem dX4_sum_19 : decode cX4_sum 19 = .ok (.iload 4, 2) := da_54 (19, .iload 4, 2) (List.mem_of_getElem? (i := 11) rfl)
theorem dX4_sum_21 : decode cX4_sum 21 = .ok (.iaload, 1) := da_54 (21, .iaload, 1) (List.mem_of_getElem? (i := 12) rfl)
theorem dX4_sum_22 : decode cX4_sum 22 = .ok (.i2l, 1) := da_54 (22, .i2l, 1) (List.mem_of_getElem? (i := 13) rfl)
theorem dX4_sum_23 : decode cX4_sum 23 = .ok (.aload_n 0, 1) := da_54 (23, .aload_n 0, 1) (List.mem_of_getElem? (i := 14) rfl)
theorem dX4_sum_24 : decode cX4_sum 24 = .ok (.iload 4, 2) := da_54 (24, .iload 4, 2) (List.mem_of_getElem? (i := 15) rfl)
theorem dX4_sum_26 : decode cX4_sum 26 = .ok (.aload_n 1, 1) := da_54 (26, .aload_n 1, 1) (List.mem_of_getElem? (i := 16) rfl)
theorem dX4_sum_27 : decode cX4_sum 27 = .ok (.invokevirtual 81, 3) := da_54 (27, .invokevirtual 81, 3) (List.mem_of_getElem? (i := 17) rfl)
theorem dX4_sum_30 : decode cX4_sum 30 = .ok (.i2l, 1) := da_54 (30, .i2l, 1) (List.mem_of_getElem? (i := 18) rfl)
theorem dX4_sum_31 : decode cX4_sum 31 = .ok (.lmul, 1) := da_54 (31, .lmul, 1) (List.mem_of_getElem? (i := 19) rfl)
theorem dX4_sum_32 : decode cX4_sum 32 = .ok (.ladd, 1) := da_54 (32, .ladd, 1) (List.mem_of_getElem? (i := 20) rfl)
theorem dX4_sum_33 : decode cX4_sum 33 = .ok (.lstore_n 2, 1) := da_54 (33, .lstore_n 2, 1) (List.mem_of_getElem? (i := 21) rfl)
theorem dX4_sum_34 : decode cX4_sum 34 = .ok (.iinc 4 1, 3) := da_54 (34, .iinc 4 1, 3) (List.mem_of_getElem? (i := 22) rfl)
theorem dX4_sum_37 : decode cX4_sum 37 = .ok (.goto (-32), 3) := da_54 (37, .goto (-32), 3) (List.mem_of_getElem? (i := 23) rfl)
theorem dX4_sum_40 : decode cX4_sum 40 = .ok (.lload_n 2, 1) := da_54 (40, .lload_n 2, 1) (List.mem_of_getElem? (i := 24) rfl)
theorem dX4_sum_41 : decode cX4_sum 41 = .ok (.lreturn, 1) := da_54 (41, .lreturn, 1) (List.mem_of_getElem? (i := 25) rfl)
set_option maxRecDepth 20000 in
theorem ggX5_init_X1_init : GoodIn wsX5_init wsX1_init := goodIn_r _ [31, 32, 2, 3, 24, 33, 34, 35, 36, 37, 38, 39, 40, 41, 42, 43, 44, 45, 93, 94, 95, 96, 97, 98, 99, 100, 101, 102, 103, 104] rfl (by decide +kernel)
set_option maxRecDepth 20000 in
theorem gX5_init_X1_init_n9 : GoodIn wsX5_init (wsX1_init) := ggX5_init_X1_init
set_option maxRecDepth 20000 in
theorem ggX5_init_X4_init : GoodIn wsX5_init wsX4_init := goodIn_r _ [48, 49, 2, 3, 24, 50, 51, 52, 53, 54, 55, 56, 57, 115, 116, 117, 118, 119, 120, 121, 122] rfl (by decide +kernel)
set_option maxRecDepth 20000 in
theorem gX5_init_X4_init : GoodIn wsX5_init (wsX4_init) := ggX5_init_X4_init
set_option maxRecDepth 20000 in
theorem ggX5_init_X2_init : GoodIn wsX5_init wsX2_init := goodIn_r _ [60, 61, 2, 3, 62, 24, 63, 64, 65, 66, 67, 68, 69, 123, 124, 125, 126, 127, 128, 129] rfl (by decide +kernel)
set_option maxRecDepth 20000 in
theorem gX5_init_X2_init : GoodIn wsX5_init (wsX2_init) := ggX5_init_X2_init
set_option maxRecDepth 20000 in
theorem ggX5_init_X0_init : GoodIn wsX5_init wsX0_init := goodIn_r _ [72, 73, 2, 3, 24, 74, 36, 75, 76, 77, 78, 79, 80, 81, 82, 83, 84, 130, 131, 132, 133, 134, 135, 136, 137, 138] rfl (by decide +kernel)
set_option maxRecDepth 20000 in
theorem gX5_init_X0_init : GoodIn wsX5_init (wsX0_init) := ggX5_init_X0_init
set_option maxRecDepth 20000 in
theorem ggX5_init_X3_init : GoodIn wsX5_init wsX3_init := goodIn_r _ [87, 88, 2, 3, 24, 89, 90, 91, 92, 139, 140, 141, 142] rfl (by decide +kernel)
set_option maxRecDepth 20000 in
theorem gX5_init_X3_init : GoodIn wsX5_init (wsX3_init) := ggX5_init_X3_init
def dq_55 : List (Nat × Jvm.ClassFile.Instr × Nat) := [(0, .aload_n 0, 1), (1, .invokespecial 1, 3), (4, .aload_n 0, 1), (5, .new 7, 3), (8, .dup, 1), (9, .invokespecial 9, 3), (12, .putfield 10, 3), (15, .aload_n 0, 1), (16, .new 16, 3), (19, .dup, 1), (20, .aload_n 0, 1), (21, .getfield 10, 3), (24, .invokespecial 18, 3), (27, .putfield 21, 3), (30, .aload_n 0, 1), (31, .new 25, 3), (34, .dup, 1), (35, .aload_n 0, 1), (36, .getfield 10, 3), (39, .invokespecial 27, 3), (42, .putfield 28, 3), (45, .aload_n 0, 1), (46, .new 32, 3), (49, .dup, 1), (50, .aload_n 0, 1), (51, .getfield 10, 3), (54, .aload_n 0, 1), (55, .getfield 21, 3), (58, .invokespecial 34, 3), (61, .putfield 37, 3), (64, .aload_n 0, 1), (65, .new 41, 3), (68, .dup, 1), (69, .aload_n 0, 1), (70, .getfield 10, 3), (73, .invokespecial 43, 3), (76, .putfield 44, 3), (79, .aload_n 0, 1), (80, .bipush 60, 2), (82, .newarray .int, 2), (84, .putfield 48, 3), (87, .aload_n 0, 1), (88, .bipush 60, 2), (90, .newarray .int, 2), (92, .putfield 52, 3), (95, .aload_n 0, 1), (96, .iconst 0, 1), (97, .putfield 55, 3), (100, .aload_n 0, 1), (101, .iconst 0, 1)]
set_option maxRecDepth 20000 in
theorem da_55 : ∀ q ∈ dq_55, decode cX5_init q.1 = .ok (q.2.1, q.2.2) := by decide +kernel
theorem dX5_init_0 : decode cX5_init 0 = .ok (.aload_n 0, 1) := da_55 (0, .aload_n 0, 1) (List.mem_of_getElem? (i := 0) rfl)
theorem dX5_init_1 : decode cX5_init 1 = .ok (.invokespecial 1, 3) := da_55 (1, .invokespecial 1, 3) (List.mem_of_getElem? (i := 1) rfl)
theorem dX5_init_4 : decode cX5_init 4 = .ok (.aload_n 0, 1) := da_55 (4, .aload_n 0, 1) (List.mem_of_getElem? (i := 2) rfl)
theorem dX5_init_5 : decode cX5_init 5 = .ok (.new 7, 3) := da_55 (5, .new 7, 3) (List.mem_of_getElem? (i := 3) rfl)
theorem dX5_init_8 : decode cX5_init 8 = .ok (.dup, 1) := da_55 (8, .dup, 1) (List.mem_of_getElem? (i := 4) rfl)
theorem dX5_init_9 : decode cX5_init 9 = .ok (.invokespecial 9, 3) := da_55 (9, .invokespecial 9, 3) (List.mem_of_getElem? (i := 5) rfl)
theorem dX5_init_12 : decode cX5_init 12 = .ok (.putfield 10, 3) := da_55 (12, .putfield 10, 3) (List.mem_of_getElem? (i := 6) rfl)
theorem dX5_init_15 : decode cX5_init 15 = .ok (.aload_n 0, 1) := da_55 (15, .aload_n 0, 1) (List.mem_of_getElem? (i := 7) rfl)
theorem dX5_init_16 : decode cX5_init 16 = .ok (.new 16, 3) := da_55 (16, .new 16, 3) (List.mem_of_getElem? (i := 8) rfl)
theorem dX5_init_19 : decode cX5_init 19 = .ok (.dup, 1) := da_55 (19, .dup, 1) (List.mem_of_getElem? (i := 9) rfl)
theorem dX5_init_20 : decode cX5_init 20 = .ok (.aload_n 0, 1) := da_55 (20, .aload_n 0, 1) (List.mem_of_getElem? (i := 10) rfl)
theorem dX5_init_21 : decode cX5_init 21 = .ok (.getfield 10, 3) := da_55 (21, .getfield 10, 3) (List.mem_of_getElem? (i := 11) rfl)
theorem dX5_init_24 : decode cX5_init 24 = .ok (.invokespecial 18, 3) := da_55 (24, .invokespecial 18, 3) (List.mem_of_getElem? (i := 12) rfl)
theorem dX5_init_27 : decode cX5_init 27 = .ok (.putfield 21, 3) := da_55 (27, .putfield 21, 3) (List.mem_of_getElem? (i := 13) rfl)
theorem dX5_init_30 : decode cX5_init 30 = .ok (.aload_n 0, 1) := da_55 (30, .aload_n 0, 1) (List.mem_of_getElem? (i := 14) rfl)
theorem dX5_init_31 : decode cX5_init 31 = .ok (.new 25, 3) := da_55 (31, .new 25, 3) (List.mem_of_getElem? (i := 15) rfl)
theorem dX5_init_34 : decode cX5_init 34 = .ok (.dup, 1) := da_55 (34, .dup, 1) (List.mem_of_getElem? (i := 16) rfl)
theorem dX5_init_35 : decode cX5_init 35 = .ok (.aload_n 0, 1) := da_55 (35, .aload_n 0, 1) (List.mem_of_getElem? (i := 17) rfl)
theorem dX5_init_36 : decode cX5_init 36 = .ok (.getfield 10, 3) := da_55 (36, .getfield 10, 3) (List.mem_of_getElem? (i := 18) rfl)
theorem dX5_init_39 : decode cX5_init 39 = .ok (.invokespecial 27, 3) := da_55 (39, .invokespecial 27, 3) (List.mem_of_getElem? (i := 19) rfl)
theorem dX5_init_42 : decode cX5_init 42 = .ok (.putfield 28, 3) := da_55 (42, .putfield 28, 3) (List.mem_of_getElem? (i := 20) rfl)
theorem dX5_init_45 : decode cX5_init 45 = .ok (.aload_n 0, 1) := da_55 (45, .aload_n 0, 1) (List.mem_of_getElem? (i := 21) rfl)
theorem dX5_init_46 : decode cX5_init 46 = .ok (.new 32, 3) := da_55 (46, .new 32, 3) (List.mem_of_getElem? (i := 22) rfl)
theorem dX5_init_49 : decode cX5_init 49 = .ok (.dup, 1) := da_55 (49, .dup, 1) (List.mem_of_getElem? (i := 23) rfl)
theorem dX5_init_50 : decode cX5_init 50 = .ok (.aload_n 0, 1) := da_55 (50, .aload_n 0, 1) (List.mem_of_getElem? (i := 24) rfl)
theorem dX5_init_51 : decode cX5_init 51 = .ok (.getfield 10, 3) := da_55 (51, .getfield 10, 3) (List.mem_of_getElem? (i := 25) rfl)
theorem dX5_init_54 : decode cX5_init 54 = .ok (.aload_n 0, 1) := da_55 (54, .aload_n 0, 1) (List.mem_of_getElem? (i := 26) rfl)
theorem dX5_init_55 : decode cX5_init 55 = .ok (.getfield 21, 3) := da_55 (55, .getfield 21, 3) (List.mem_of_getElem? (i := 27) rfl)
theorem dX5_init_58 : decode cX5_init 58 = .ok (.invokespecial 34, 3) := da_55 (58, .invokespecial 34, 3) (List.mem_of_getElem? (i := 28) rfl)
theorem dX5_init_61 : decode cX5_init 61 = .ok (.putfield 37, 3) := da_55 (61, .putfield 37, 3) (List.mem_of_getElem? (i := 29) rfl)
theorem dX5_init_64 : decode cX5_init 64 = .ok (.aload_n 0, 1) := da_55 (64, .aload_n 0, 1) (List.mem_of_getElem? (i := 30) rfl)
theorem dX5_init_65 : decode cX5_init 65 = .ok (.new 41, 3) := da_55 (65, .new 41, 3) (List.mem_of_getElem? (i := 31) rfl)
theorem dX5_init_68 : decode cX5_init 68 = .ok (.dup, 1) := da_55 (68, .dup, 1) (List.mem_of_getElem? (i := 32) rfl)
theorem dX5_init_69 : decode cX5_init 69 = .ok (.aload_n 0, 1) := da_55 (69, .aload_n 0, 1) (List.mem_of_getElem? (i := 33) rfl)
theorem dX5_init_70 : decode cX5_init 70 = .ok (.getfield 10, 3) := da_55 (70, .getfield 10, 3) (List.mem_of_getElem? (i := 34) rfl)
theorem dX5_init_73 : decode cX5_init 73 = .ok (.invokespecial 43, 3) := da_55 (73, .invokespecial 43, 3) (List.mem_of_getElem? (i := 35) rfl)
theorem dX5_init_76 : decode cX5_init 76 = .ok (.putfield 44, 3) := da_55 (76, .putfield 44, 3) (List.mem_of_getElem? (i := 36) rfl)
theorem dX5_init_79 : decode cX5_init 79 = .ok (.aload_n 0, 1) := da_55 (79, .aload_n 0, 1) (List.mem_of_getElem? (i := 37) rfl)
theorem dX5_init_80 : decode cX5_init 80 = .ok (.bipush 60, 2) := da_55 (80, .bipush 60, 2) (List.mem_of_getElem? (i := 38) rfl)
theorem dX5_init_82 : decode cX5_init 82 = .ok (.newarray .int, 2) := da_55 (82, .newarray .int, 2) (List.mem_of_getElem? (i := 39) rfl)
theorem dX5_init_84 : decode cX5_init 84 = .ok (.putfield 48, 3) := da_55 (84, .putfield 48, 3) (List.mem_of_getElem? (i := 40) rfl)
theorem dX5_init_87 : decode cX5_init 87 = .ok (.aload_n 0, 1) := da_55 (87, .aload_n 0, 1) (List.mem_of_getElem? (i := 41) rfl)
theorem dX5_init_88 : decode cX5_init 88 = .ok (.bipush 60, 2) := da_55 (88, .bipush 60, 2) (List.mem_of_getElem? (i := 42) rfl)
theorem dX5_init_90 : decode cX5_init 90 = .ok (.newarray .int, 2) := da_55 (90, .newarray .int, 2) (List.mem_of_getElem? (i := 43) rfl)
theorem dX5_init_92 : decode cX5_init 92 = .ok (.putfield 52, 3) := da_55 (92, .putfield 52, 3) (List.mem_of_getElem? (i := 44) rfl)
theorem dX5_init_95 : decode cX5_init 95 = .ok (.aload_n 0, 1) := da_55 (95, .aload_n 0, 1) (List.mem_of_getElem? (i := 45) rfl)
theorem dX5_init_96 : decode cX5_init 96 = .ok (.iconst 0, 1) := da_55 (96, .iconst 0, 1) (List.mem_of_getElem? (i := 46) rfl)
theorem dX5_init_97 : decode cX5_init 97 = .ok (.putfield 55, 3) := da_55 (97, .putfield 55, 3) (List.mem_of_getElem? (i := 47) rfl)
theorem dX5_init_100 : decode cX5_init 100 = .ok (.aload_n 0, 1) := da_55 (100, .aload_n 0, 1) (List.mem_of_getElem? (i := 48) rfl)
theorem dX5_init_101 : decode cX5_init 101 = .ok (.iconst 0, 1) := da_55 (101, .iconst 0, 1) (List.mem_of_getElem? (i := 49) rfl)
def dq_56 : List (Nat × Jvm.ClassFile.Instr × Nat) := [(102, .putfield 59, 3), (105, .aload_n 0, 1), (106, .iconst 0, 1), (107, .putfield 62, 3), (110, .return_, 1)]
set_option maxRecDepth 20000 in
theorem da_56 : ∀ q ∈ dq_56, decode cX5_init q.1 = .ok (q.2.1, q.2.2) := by decide +kernel
theorem dX5_init_102 : decode cX5_init 102 = .ok (.putfield 59, 3) := da_56 (102, .putfield 59, 3) (List.mem_of_getElem? (i := 0) rfl)
theorem dX5_init_105 : decode cX5_init 105 = .ok (.aload_n 0, 1) := da_56 (105, .aload_n 0, 1) (List.mem_of_getElem? (i := 1) rfl)
theorem dX5_init_106 : decode cX5_init 106 = .ok (.iconst 0, 1) := da_56 (106, .iconst 0, 1) (List.mem_of_getElem? (i := 2) rfl)
theorem dX5_init_107 : decode cX5_init 107 = .ok (.putfield 62, 3) := da_56 (107, .putfield 62, 3) (List.mem_of_getElem? (i := 3) rfl)
theorem dX5_init_110 : decode cX5_init 110 = .ok (.return_, 1) := da_56 (110, .return_, 1) (List.mem_of_getElem? (i := 4) rfl)
set_option maxRecDepth 20000 in
theorem ggX5_event_X5_isIn : GoodIn wsX5_event wsX5_isIn := goodIn_r _ [6] rfl (by decide +kernel)
set_option maxRecDepth 20000 in
theorem gX5_event_X5_isIn : GoodIn wsX5_event (va_wsS RX5 65 yX5_isIn wsX5_isIn) := goodIn_app (goodIn_r _ [3, 4, 5] rfl (by decide +kernel)) ggX5_event_X5_isIn
set_option maxRecDepth 20000 in
theorem ggX5_event_X5_forgetAnswers : GoodIn wsX5_event wsX5_forgetAnswers := goodIn_r _ [10, 11, 12, 24, 25, 26, 27, 28, 29, 30, 31, 32, 33] rfl (by decide +kernel)
set_option maxRecDepth 20000 in
theorem gX5_event_X5_forgetAnswers : GoodIn wsX5_event (wsV RX5 73 RX5 yX5_forgetAnswers wsX5_forgetAnswers) := goodIn_app (goodIn_r _ [7, 8, 9, 5] rfl (by decide +kernel)) ggX5_event_X5_forgetAnswers
set_option maxRecDepth 20000 in
theorem ggX5_event_X1_addEvent : GoodIn wsX5_event wsX1_addEvent := goodIn_r _ [17, 18, 19, 20, 21, 22, 23, 34, 35, 36, 37, 38, 39, 40, 41, 42, 43, 44, 45] rfl (by decide +kernel)
set_option maxRecDepth 20000 in
theorem gX5_event_X1_addEvent : GoodIn wsX5_event (wsV RX5 76 RX1 yX1_addEvent wsX1_addEvent) := goodIn_app (goodIn_r _ [13, 14, 15, 16] rfl (by decide +kernel)) ggX5_event_X1_addEvent
def dq_57 : List (Nat × Jvm.ClassFile.Instr × Nat) := [(0, .iload_n 1, 1), (1, .iconst 0, 1), (2, .bipush 15, 2), (4, .invokestatic 65, 3), (7, .ifCond .eq 26, 3), (10, .iload_n 2, 1), (11, .iconst 0, 1), (12, .sipush 2000, 3), (15, .invokestatic 65, 3), (18, .ifCond .eq 15, 3), (21, .aload_n 0, 1), (22, .getfield 10, 3), (25, .getfield 69, 3), (28, .bipush 60, 2), (30, .if_icmp .lt 5, 3), (33, .iconst (-1), 1), (34, .ireturn, 1), (35, .aload_n 0, 1), (36, .invokevirtual 73, 3), (39, .aload_n 0, 1), (40, .getfield 10, 3), (43, .iload_n 1, 1), (44, .iload_n 2, 1), (45, .invokevirtual 76, 3), (48, .ireturn, 1)]
set_option maxRecDepth 20000 in
theorem da_57 : ∀ q ∈ dq_57, decode cX5_event q.1 = .ok (q.2.1, q.2.2) := by decide +kernel
theorem dX5_event_0 : decode cX5_event 0 = .ok (.iload_n 1, 1) := da_57 (0, .iload_n 1, 1) (List.mem_of_getElem? (i := 0) rfl)
theorem dX5_event_1 : decode cX5_event 1 = .ok (.iconst 0, 1) := da_57 (1, .iconst 0, 1) (List.mem_of_getElem? (i := 1) rfl)
theorem dX5_event_2 : decode cX5_event 2 = .ok (.bipush 15, 2) := da_57 (2, .bipush 15, 2) (List.mem_of_getElem? (i := 2) rfl)
theorem dX5_event_4 : decode cX5_event 4 = .ok (.invokestatic 65, 3) := da_57 (4, .invokestatic 65, 3) (List.mem_of_getElem? (i := 3) rfl)
theorem dX5_event_7 : decode cX5_event 7 = .ok (.ifCond .eq 26, 3) := da_57 (7, .ifCond .eq 26, 3) (List.mem_of_getElem? (i := 4) rfl)
theorem dX5_event_10 : decode cX5_event 10 = .ok (.iload_n 2, 1) := da_57 (10, .iload_n 2, 1) (List.mem_of_getElem? (i := 5) rfl)
theorem dX5_event_11 : decode cX5_event 11 = .ok (.iconst 0, 1) := da_57 (11, .iconst 0, 1) (List.mem_of_getElem? (i := 6) rfl)
theorem dX5_event_12 : decode cX5_event 12 = .ok (.sipush 2000, 3) := da_57 (12, .sipush 2000, 3) (List.mem_of_getElem? (i := 7) rfl)
theorem dX5_event_15 : decode cX5_event 15 = .ok (.invokestatic 65, 3) := da_57 (15, .invokestatic 65, 3) (List.mem_of_getElem? (i := 8) rfl)
theorem dX5_event_18 : decode cX5_event 18 = .ok (.ifCond .eq 15, 3) := da_57 (18, .ifCond .eq 15, 3) (List.mem_of_getElem? (i := 9) rfl)
theorem dX5_event_21 : decode cX5_event 21 = .ok (.aload_n 0, 1) := da_57 (21, .aload_n 0, 1) (List.mem_of_getElem? (i := 10) rfl)
theorem dX5_event_22 : decode cX5_event 22 = .ok (.getfield 10, 3) := da_57 (22, .getfield 10, 3) (List.mem_of_getElem? (i := 11) rfl)
theorem dX5_event_25 : decode cX5_event 25 = .ok (.getfield 69, 3) := da_57 (25, .getfield 69, 3) (List.mem_of_getElem? (i := 12) rfl)
theorem dX5_event_28 : decode cX5_event 28 = .ok (.bipush 60, 2) := da_57 (28, .bipush 60, 2) (List.mem_of_getElem? (i := 13) rfl)
theorem dX5_event_30 : decode cX5_event 30 = .ok (.if_icmp .lt 5, 3) := da_57 (30, .if_icmp .lt 5, 3) (List.mem_of_getElem? (i := 14) rfl)
theorem dX5_event_33 : decode cX5_event 33 = .ok (.iconst (-1), 1) := da_57 (33, .iconst (-1), 1) (List.mem_of_getElem? (i := 15) rfl)
theorem dX5_event_34 : decode cX5_event 34 = .ok (.ireturn, 1) := da_57 (34, .ireturn, 1) (List.mem_of_getElem? (i := 16) rfl)
theorem dX5_event_35 : decode cX5_event 35 = .ok (.aload_n 0, 1) := da_57 (35, .aload_n 0, 1) (List.mem_of_getElem? (i := 17) rfl)
theorem dX5_event_36 : decode cX5_event 36 = .ok (.invokevirtual 73, 3) := da_57 (36, .invokevirtual 73, 3) (List.mem_of_getElem? (i := 18) rfl)
theorem dX5_event_39 : decode cX5_event 39 = .ok (.aload_n 0, 1) := da_57 (39, .aload_n 0, 1) (List.mem_of_getElem? (i := 19) rfl)
theorem dX5_event_40 : decode cX5_event 40 = .ok (.getfield 10, 3) := da_57 (40, .getfield 10, 3) (List.mem_of_getElem? (i := 20) rfl)
theorem dX5_event_43 : decode cX5_event 43 = .ok (.iload_n 1, 1) := da_57 (43, .iload_n 1, 1) (List.mem_of_getElem? (i := 21) rfl)
theorem dX5_event_44 : decode cX5_event 44 = .ok (.iload_n 2, 1) := da_57 (44, .iload_n 2, 1) (List.mem_of_getElem? (i := 22) rfl)
theorem dX5_event_45 : decode cX5_event 45 = .ok (.invokevirtual 76, 3) := da_57 (45, .invokevirtual 76, 3) (List.mem_of_getElem? (i := 23) rfl)
theorem dX5_event_48 : decode cX5_event 48 = .ok (.ireturn, 1) := da_57 (48, .ireturn, 1) (List.mem_of_getElem? (i := 24) rfl)
set_option maxRecDepth 20000 in
theorem ggX5_activity_X5_isIn : GoodIn wsX5_activity wsX5_isIn := goodIn_r _ [6] rfl (by decide +kernel)
set_option maxRecDepth 20000 in
theorem gX5_activity_X5_isIn : GoodIn wsX5_activity (va_wsS RX5 65 yX5_isIn wsX5_isIn) := goodIn_app (goodIn_r _ [3, 4, 5] rfl (by decide +kernel)) ggX5_activity_X5_isIn
set_option maxRecDepth 20000 in
theorem ggX5_activity_X1_canJoin : GoodIn wsX5_activity wsX1_canJoin := goodIn_r _ [11, 12, 13, 14, 15, 10, 16, 17, 44, 45, 46, 47, 48, 49, 50, 51, 52, 53, 54, 55] rfl (by decide +kernel)
set_option maxRecDepth 20000 in
theorem gX5_activity_X1_canJoin : GoodIn wsX5_activity (wsV RX5 83 RX1 yX1_canJoin wsX1_canJoin) := goodIn_app (goodIn_r _ [7, 8, 9, 10] rfl (by decide +kernel)) ggX5_activity_X1_canJoin
set_option maxRecDepth 20000 in
theorem ggX5_activity_X5_forgetAnswers : GoodIn wsX5_activity wsX5_forgetAnswers := goodIn_r _ [21, 22, 23, 34, 35, 36, 37, 38, 39, 40, 41, 42, 43] rfl (by decide +kernel)
set_option maxRecDepth 20000 in
theorem gX5_activity_X5_forgetAnswers : GoodIn wsX5_activity (wsV RX5 73 RX5 yX5_forgetAnswers wsX5_forgetAnswers) := goodIn_app (goodIn_r _ [18, 19, 20, 5] rfl (by decide +kernel)) ggX5_activity_X5_forgetAnswers
set_option maxRecDepth 20000 in
theorem ggX5_activity_X1_addActivity : GoodIn wsX5_activity wsX1_addActivity := goodIn_r _ [27, 28, 29, 30, 31, 32, 33, 44, 45, 46, 47, 48, 49, 50, 51, 52, 53, 54, 55] rfl (by decide +kernel)
set_option maxRecDepth 20000 in
theorem gX5_activity_X1_addActivity : GoodIn wsX5_activity (wsV RX5 86 RX1 yX1_addActivity wsX1_addActivity) := goodIn_app (goodIn_r _ [24, 25, 26, 10] rfl (by decide +kernel)) ggX5_activity_X1_addActivity
def dq_58 : List (Nat × Jvm.ClassFile.Instr × Nat) := [(0, .iload_n 1, 1), (1, .iconst 0, 1), (2, .iconst 4, 1), (3, .invokestatic 65, 3), (6, .ifCond .eq 40, 3), (9, .iload 4, 2), (11, .iconst 0, 1), (12, .sipush 500, 3), (15, .invokestatic 65, 3), (18, .ifCond .eq 28, 3), (21, .aload_n 0, 1), (22, .getfield 10, 3), (25, .getfield 80, 3), (28, .bipush 100, 2), (30, .if_icmp .ge 16, 3), (33, .aload_n 0, 1), (34, .getfield 10, 3), (37, .iload_n 1, 1), (38, .iload_n 2, 1), (39, .iload_n 3, 1), (40, .invokevirtual 83, 3), (43, .ifCond .ne 5, 3), (46, .iconst (-1), 1), (47, .ireturn, 1), (48, .aload_n 0, 1), (49, .invokevirtual 73, 3), (52, .aload_n 0, 1), (53, .getfield 10, 3), (56, .iload_n 1, 1), (57, .iload_n 2, 1), (58, .iload_n 3, 1), (59, .iload 4, 2), (61, .invokevirtual 86, 3), (64, .ireturn, 1)]
set_option maxRecDepth 20000 in
theorem da_58 : ∀ q ∈ dq_58, decode cX5_activity q.1 = .ok (q.2.1, q.2.2) := by decide +kernel
theorem dX5_activity_0 : decode cX5_activity 0 = .ok (.iload_n 1, 1) := da_58 (0, .iload_n 1, 1) (List.mem_of_getElem? (i := 0) rfl)
theorem dX5_activity_1 : decode cX5_activity 1 = .ok (.iconst 0, 1) := da_58 (1, .iconst 0, 1) (List.mem_of_getElem? (i := 1) rfl)
theorem dX5_activity_2 : decode cX5_activity 2 = .ok (.iconst 4, 1) := da_58 (2, .iconst 4, 1) (List.mem_of_getElem? (i := 2) rfl)
theorem dX5_activity_3 : decode cX5_activity 3 = .ok (.invokestatic 65, 3) := da_58 (3, .invokestatic 65, 3) (List.mem_of_getElem? (i := 3) rfl)
theorem dX5_activity_6 : decode cX5_activity 6 = .ok (.ifCond .eq 40, 3) := da_58 (6, .ifCond .eq 40, 3) (List.mem_of_getElem? (i := 4) rfl)
theorem dX5_activity_9 : decode cX5_activity 9 = .ok (.iload 4, 2) := da_58 (9, .iload 4, 2) (List.mem_of_getElem? (i := 5) rfl)
theorem dX5_activity_11 : decode cX5_activity 11 = .ok (.iconst 0, 1) := da_58 (11, .iconst 0, 1) (List.mem_of_getElem? (i := 6) rfl)
theorem dX5_activity_12 : decode cX5_activity 12 = .ok (.sipush 500, 3) := da_58 (12, .sipush 500, 3) (List.mem_of_getElem? (i := 7) rfl)
theorem dX5_activity_15 : decode cX5_activity 15 = .ok (.invokestatic 65, 3) := da_58 (15, .invokestatic 65, 3) (List.mem_of_getElem? (i := 8) rfl)
theorem dX5_activity_18 : decode cX5_activity 18 = .ok (.ifCond .eq 28, 3) := da_58 (18, .ifCond .eq 28, 3) (List.mem_of_getElem? (i := 9) rfl)
theorem dX5_activity_21 : decode cX5_activity 21 = .ok (.aload_n 0, 1) := da_58 (21, .aload_n 0, 1) (List.mem_of_getElem? (i := 10) rfl)
theorem dX5_activity_22 : decode cX5_activity 22 = .ok (.getfield 10, 3) := da_58 (22, .getfield 10, 3) (List.mem_of_getElem? (i := 11) rfl)
theorem dX5_activity_25 : decode cX5_activity 25 = .ok (.getfield 80, 3) := da_58 (25, .getfield 80, 3) (List.mem_of_getElem? (i := 12) rfl)
theorem dX5_activity_28 : decode cX5_activity 28 = .ok (.bipush 100, 2) := da_58 (28, .bipush 100, 2) (List.mem_of_getElem? (i := 13) rfl)
theorem dX5_activity_30 : decode cX5_activity 30 = .ok (.if_icmp .ge 16, 3) := da_58 (30, .if_icmp .ge 16, 3) (List.mem_of_getElem? (i := 14) rfl)
theorem dX5_activity_33 : decode cX5_activity 33 = .ok (.aload_n 0, 1) := da_58 (33, .aload_n 0, 1) (List.mem_of_getElem? (i := 15) rfl)
theorem dX5_activity_34 : decode cX5_activity 34 = .ok (.getfield 10, 3) := da_58 (34, .getfield 10, 3) (List.mem_of_getElem? (i := 16) rfl)
theorem dX5_activity_37 : decode cX5_activity 37 = .ok (.iload_n 1, 1) := da_58 (37, .iload_n 1, 1) (List.mem_of_getElem? (i := 17) rfl)
theorem dX5_activity_38 : decode cX5_activity 38 = .ok (.iload_n 2, 1) := da_58 (38, .iload_n 2, 1) (List.mem_of_getElem? (i := 18) rfl)
theorem dX5_activity_39 : decode cX5_activity 39 = .ok (.iload_n 3, 1) := da_58 (39, .iload_n 3, 1) (List.mem_of_getElem? (i := 19) rfl)
theorem dX5_activity_40 : decode cX5_activity 40 = .ok (.invokevirtual 83, 3) := da_58 (40, .invokevirtual 83, 3) (List.mem_of_getElem? (i := 20) rfl)
theorem dX5_activity_43 : decode cX5_activity 43 = .ok (.ifCond .ne 5, 3) := da_58 (43, .ifCond .ne 5, 3) (List.mem_of_getElem? (i := 21) rfl)
theorem dX5_activity_46 : decode cX5_activity 46 = .ok (.iconst (-1), 1) := da_58 (46, .iconst (-1), 1) (List.mem_of_getElem? (i := 22) rfl)
theorem dX5_activity_47 : decode cX5_activity 47 = .ok (.ireturn, 1) := da_58 (47, .ireturn, 1) (List.mem_of_getElem? (i := 23) rfl)
theorem dX5_activity_48 : decode cX5_activity 48 = .ok (.aload_n 0, 1) := da_58 (48, .aload_n 0, 1) (List.mem_of_getElem? (i := 24) rfl)
theorem dX5_activity_49 : decode cX5_activity 49 = .ok (.invokevirtual 73, 3) := da_58 (49, .invokevirtual 73, 3) (List.mem_of_getElem? (i := 25) rfl)
theorem dX5_activity_52 : decode cX5_activity 52 = .ok (.aload_n 0, 1) := da_58 (52, .aload_n 0, 1) (List.mem_of_getElem? (i := 26) rfl)
theorem dX5_activity_53 : decode cX5_activity 53 = .ok (.getfield 10, 3) := da_58 (53, .getfield 10, 3) (List.mem_of_getElem? (i := 27) rfl)
theorem dX5_activity_56 : decode cX5_activity 56 = .ok (.iload_n 1, 1) := da_58 (56, .iload_n 1, 1) (List.mem_of_getElem? (i := 28) rfl)
theorem dX5_activity_57 : decode cX5_activity 57 = .ok (.iload_n 2, 1) := da_58 (57, .iload_n 2, 1) (List.mem_of_getElem? (i := 29) rfl)
theorem dX5_activity_58 : decode cX5_activity 58 = .ok (.iload_n 3, 1) := da_58 (58, .iload_n 3, 1) (List.mem_of_getElem? (i := 30) rfl)
theorem dX5_activity_59 : decode cX5_activity 59 = .ok (.iload 4, 2) := da_58 (59, .iload 4, 2) (List.mem_of_getElem? (i := 31) rfl)
theorem dX5_activity_61 : decode cX5_activity 61 = .ok (.invokevirtual 86, 3) := da_58 (61, .invokevirtual 86, 3) (List.mem_of_getElem? (i := 32) rfl)
theorem dX5_activity_64 : decode cX5_activity 64 = .ok (.ireturn, 1) := da_58 (64, .ireturn, 1) (List.mem_of_getElem? (i := 33) rfl)
set_option maxRecDepth 20000 in
theorem ggX5_source_X1_hasEvent : GoodIn wsX5_source wsX1_hasEvent := goodIn_r _ [7, 8, 29, 30, 31, 32, 33, 34, 35, 36, 37, 38, 39, 40] rfl (by decide +kernel)
set_option maxRecDepth 20000 in
theorem gX5_source_X1_hasEvent : GoodIn wsX5_source (wsV RX5 90 RX1 yX1_hasEvent wsX1_hasEvent) := goodIn_app (goodIn_r _ [3, 4, 5, 6] rfl (by decide +kernel)) ggX5_source_X1_hasEvent
set_option maxRecDepth 20000 in
theorem ggX5_source_X5_isIn : GoodIn wsX5_source wsX5_isIn := goodIn_r _ [12] rfl (by decide +kernel)
set_option maxRecDepth 20000 in
theorem gX5_source_X5_isIn : GoodIn wsX5_source (va_wsS RX5 65 yX5_isIn wsX5_isIn) := goodIn_app (goodIn_r _ [9, 10, 11] rfl (by decide +kernel)) ggX5_source_X5_isIn
set_option maxRecDepth 20000 in
theorem ggX5_source_X5_forgetAnswers : GoodIn wsX5_source wsX5_forgetAnswers := goodIn_r _ [16, 17, 18, 19, 20, 21, 22, 23, 24, 25, 26, 27, 28] rfl (by decide +kernel)
set_option maxRecDepth 20000 in
theorem gX5_source_X5_forgetAnswers : GoodIn wsX5_source (wsV RX5 73 RX5 yX5_forgetAnswers wsX5_forgetAnswers) := goodIn_app (goodIn_r _ [13, 14, 15, 11] rfl (by decide +kernel)) ggX5_source_X5_forgetAnswers
def dq_59 : List (Nat × Jvm.ClassFile.Instr × Nat) := [(0, .aload_n 0, 1), (1, .getfield 10, 3), (4, .iload_n 1, 1), (5, .invokevirtual 90, 3), (8, .ifCond .eq 14, 3), (11, .iload_n 2, 1), (12, .iconst 0, 1), (13, .sipush 500, 3), (16, .invokestatic 65, 3), (19, .ifCond .ne 5, 3), (22, .iconst 0, 1), (23, .ireturn, 1), (24, .aload_n 0, 1), (25, .getfield 10, 3), (28, .getfield 94, 3), (31, .iload_n 1, 1), (32, .iload_n 2, 1), (33, .iastore, 1), (34, .aload_n 0, 1), (35, .invokevirtual 73, 3), (38, .iconst 1, 1), (39, .ireturn, 1)]
set_option maxRecDepth 20000 in
theorem da_59 : ∀ q ∈ dq_59, decode cX5_source q.1 = .ok (q.2.1, q.2.2) := by decide +kernel
theorem dX5_source_0 : decode cX5_source 0 = .ok (.aload_n 0, 1) := da_59 (0, .aload_n 0, 1) (List.mem_of_getElem? (i := 0) rfl)
theorem dX5_source_1 : decode cX5_source 1 = .ok (.getfield 10, 3) := da_59 (1, .getfield 10, 3) (List.mem_of_getElem? (i := 1) rfl)
theorem dX5_source_4 : decode cX5_source 4 = .ok (.iload_n 1, 1) := da_59 (4, .iload_n 1, 1) (List.mem_of_getElem? (i := 2) rfl)
theorem dX5_source_5 : decode cX5_source 5 = .ok (.invokevirtual 90, 3) := da_59 (5, .invokevirtual 90, 3) (List.mem_of_getElem? (i := 3) rfl)
theorem dX5_source_8 : decode cX5_source 8 = .ok (.ifCond .eq 14, 3) := da_59 (8, .ifCond .eq 14, 3) (List.mem_of_getElem? (i := 4) rfl)
theorem dX5_source_11 : decode cX5_source 11 = .ok (.iload_n 2, 1) := da_59 (11, .iload_n 2, 1) (List.mem_of_getElem? (i := 5) rfl)
theorem dX5_source_12 : decode cX5_source 12 = .ok (.iconst 0, 1) := da_59 (12, .iconst 0, 1) (List.mem_of_getElem? (i := 6) rfl)
theorem dX5_source_13 : decode cX5_source 13 = .ok (.sipush 500, 3) := da_59 (13, .sipush 500, 3) (List.mem_of_getElem? (i := 7) rfl)
theorem dX5_source_16 : decode cX5_source 16 = .ok (.invokestatic 65, 3) := da_59 (16, .invokestatic 65, 3) (List.mem_of_getElem? (i := 8) rfl)
theorem dX5_source_19 : decode cX5_source 19 = .ok (.ifCond .ne 5, 3) := da_59 (19, .ifCond .ne 5, 3) (List.mem_of_getElem? (i := 9) rfl)
theorem dX5_source_22 : decode cX5_source 22 = .ok (.iconst 0, 1) := da_59 (22, .iconst 0, 1) (List.mem_of_getElem? (i := 10) rfl)
theorem dX5_source_23 : decode cX5_source 23 = .ok (.ireturn, 1) := da_59 (23, .ireturn, 1) (List.mem_of_getElem? (i := 11) rfl)
theorem dX5_source_24 : decode cX5_source 24 = .ok (.aload_n 0, 1) := da_59 (24, .aload_n 0, 1) (List.mem_of_getElem? (i := 12) rfl)
theorem dX5_source_25 : decode cX5_source 25 = .ok (.getfield 10, 3) := da_59 (25, .getfield 10, 3) (List.mem_of_getElem? (i := 13) rfl)
theorem dX5_source_28 : decode cX5_source 28 = .ok (.getfield 94, 3) := da_59 (28, .getfield 94, 3) (List.mem_of_getElem? (i := 14) rfl)
theorem dX5_source_31 : decode cX5_source 31 = .ok (.iload_n 1, 1) := da_59 (31, .iload_n 1, 1) (List.mem_of_getElem? (i := 15) rfl)
theorem dX5_source_32 : decode cX5_source 32 = .ok (.iload_n 2, 1) := da_59 (32, .iload_n 2, 1) (List.mem_of_getElem? (i := 16) rfl)
theorem dX5_source_33 : decode cX5_source 33 = .ok (.iastore, 1) := da_59 (33, .iastore, 1) (List.mem_of_getElem? (i := 17) rfl)
theorem dX5_source_34 : decode cX5_source 34 = .ok (.aload_n 0, 1) := da_59 (34, .aload_n 0, 1) (List.mem_of_getElem? (i := 18) rfl)
theorem dX5_source_35 : decode cX5_source 35 = .ok (.invokevirtual 73, 3) := da_59 (35, .invokevirtual 73, 3) (List.mem_of_getElem? (i := 19) rfl)
theorem dX5_source_38 : decode cX5_source 38 = .ok (.iconst 1, 1) := da_59 (38, .iconst 1, 1) (List.mem_of_getElem? (i := 20) rfl)
theorem dX5_source_39 : decode cX5_source 39 = .ok (.ireturn, 1) := da_59 (39, .ireturn, 1) (List.mem_of_getElem? (i := 21) rfl)
set_option maxRecDepth 20000 in
theorem ggX5_keep_X1_isOfKind : GoodIn wsX5_keep wsX1_isOfKind := goodIn_r _ [7, 8, 9, 10, 11, 6, 12, 13, 31, 32, 33, 34, 35, 36, 37, 38, 39, 40, 41, 42] rfl (by decide +kernel)
set_option maxRecDepth 20000 in
theorem gX5_keep_X1_isOfKind : GoodIn wsX5_keep (wsV RX5 97 RX1 yX1_isOfKind wsX1_isOfKind) := goodIn_app (goodIn_r _ [3, 4, 5, 6] rfl (by decide +kernel)) ggX5_keep_X1_isOfKind
set_option maxRecDepth 20000 in
theorem ggX5_keep_X5_forgetAnswers : GoodIn wsX5_keep wsX5_forgetAnswers := goodIn_r _ [18, 19, 20, 21, 22, 23, 24, 25, 26, 27, 28, 29, 30] rfl (by decide +kernel)
set_option maxRecDepth 20000 in
theorem gX5_keep_X5_forgetAnswers : GoodIn wsX5_keep (wsV RX5 73 RX5 yX5_forgetAnswers wsX5_forgetAnswers) := goodIn_app (goodIn_r _ [14, 15, 16, 17] rfl (by decide +kernel)) ggX5_keep_X5_forgetAnswers
def dq_60 : List (Nat × Jvm.ClassFile.Instr × Nat) := [(0, .aload_n 0, 1), (1, .getfield 10, 3), (4, .iload_n 1, 1), (5, .iconst 2, 1), (6, .invokevirtual 97, 3), (9, .ifCond .eq 16, 3), (12, .aload_n 0, 1), (13, .getfield 10, 3), (16, .getfield 101, 3), (19, .iload_n 1, 1), (20, .baload, 1), (21, .iload_n 2, 1), (22, .if_icmp .ne 5, 3), (25, .iconst 0, 1), (26, .ireturn, 1), (27, .aload_n 0, 1), (28, .getfield 10, 3), (31, .getfield 101, 3), (34, .iload_n 1, 1), (35, .iload_n 2, 1), (36, .bastore, 1), (37, .aload_n 0, 1), (38, .invokevirtual 73, 3), (41, .iconst 1, 1), (42, .ireturn, 1)]
set_option maxRecDepth 20000 in
theorem da_60 : ∀ q ∈ dq_60, decode cX5_keep q.1 = .ok (q.2.1, q.2.2) := by decide +kernel
theorem dX5_keep_0 : decode cX5_keep 0 = .ok (.aload_n 0, 1) := da_60 (0, .aload_n 0, 1) (List.mem_of_getElem? (i := 0) rfl)
theorem dX5_keep_1 : decode cX5_keep 1 = .ok (.getfield 10, 3) := da_60 (1, .getfield 10, 3) (List.mem_of_getElem? (i := 1) rfl)
theorem dX5_keep_4 : decode cX5_keep 4 = .ok (.iload_n 1, 1) := da_60 (4, .iload_n 1, 1) (List.mem_of_getElem? (i := 2) rfl)
theorem dX5_keep_5 : decode cX5_keep 5 = .ok (.iconst 2, 1) := da_60 (5, .iconst 2, 1) (List.mem_of_getElem? (i := 3) rfl)
theorem dX5_keep_6 : decode cX5_keep 6 = .ok (.invokevirtual 97, 3) := da_60 (6, .invokevirtual 97, 3) (List.mem_of_getElem? (i := 4) rfl)
theorem dX5_keep_9 : decode cX5_keep 9 = .ok (.ifCond .eq 16, 3) := da_60 (9, .ifCond .eq 16, 3) (List.mem_of_getElem? (i := 5) rfl)
theorem dX5_keep_12 : decode cX5_keep 12 = .ok (.aload_n 0, 1) := da_60 (12, .aload_n 0, 1) (List.mem_of_getElem? (i := 6) rfl)
theorem dX5_keep_13 : decode cX5_keep 13 = .ok (.getfield 10, 3) := da_60 (13, .getfield 10, 3) (List.mem_of_getElem? (i := 7) rfl)
theorem dX5_keep_16 : decode cX5_keep 16 = .ok (.getfield 101, 3) := da_60 (16, .getfield 101, 3) (List.mem_of_getElem? (i := 8) rfl)
theorem dX5_keep_19 : decode cX5_keep 19 = .ok (.iload_n 1, 1) := da_60 (19, .iload_n 1, 1) (List.mem_of_getElem? (i := 9) rfl)
theorem dX5_keep_20 : decode cX5_keep 20 = .ok (.baload, 1) := da_60 (20, .baload, 1) (List.mem_of_getElem? (i := 10) rfl)
theorem dX5_keep_21 : decode cX5_keep 21 = .ok (.iload_n 2, 1) := da_60 (21, .iload_n 2, 1) (List.mem_of_getElem? (i := 11) rfl)
theorem dX5_keep_22 : decode cX5_keep 22 = .ok (.if_icmp .ne 5, 3) := da_60 (22, .if_icmp .ne 5, 3) (List.mem_of_getElem? (i := 12) rfl)
theorem dX5_keep_25 : decode cX5_keep 25 = .ok (.iconst 0, 1) := da_60 (25, .iconst 0, 1) (List.mem_of_getElem? (i := 13) rfl)
theorem dX5_keep_26 : decode cX5_keep 26 = .ok (.ireturn, 1) := da_60 (26, .ireturn, 1) (List.mem_of_getElem? (i := 14) rfl)
theorem dX5_keep_27 : decode cX5_keep 27 = .ok (.aload_n 0, 1) := da_60 (27, .aload_n 0, 1) (List.mem_of_getElem? (i := 15) rfl)
theorem dX5_keep_28 : decode cX5_keep 28 = .ok (.getfield 10, 3) := da_60 (28, .getfield 10, 3) (List.mem_of_getElem? (i := 16) rfl)
theorem dX5_keep_31 : decode cX5_keep 31 = .ok (.getfield 101, 3) := da_60 (31, .getfield 101, 3) (List.mem_of_getElem? (i := 17) rfl)
theorem dX5_keep_34 : decode cX5_keep 34 = .ok (.iload_n 1, 1) := da_60 (34, .iload_n 1, 1) (List.mem_of_getElem? (i := 18) rfl)
theorem dX5_keep_35 : decode cX5_keep 35 = .ok (.iload_n 2, 1) := da_60 (35, .iload_n 2, 1) (List.mem_of_getElem? (i := 19) rfl)
theorem dX5_keep_36 : decode cX5_keep 36 = .ok (.bastore, 1) := da_60 (36, .bastore, 1) (List.mem_of_getElem? (i := 20) rfl)
theorem dX5_keep_37 : decode cX5_keep 37 = .ok (.aload_n 0, 1) := da_60 (37, .aload_n 0, 1) (List.mem_of_getElem? (i := 21) rfl)
theorem dX5_keep_38 : decode cX5_keep 38 = .ok (.invokevirtual 73, 3) := da_60 (38, .invokevirtual 73, 3) (List.mem_of_getElem? (i := 22) rfl)
theorem dX5_keep_41 : decode cX5_keep 41 = .ok (.iconst 1, 1) := da_60 (41, .iconst 1, 1) (List.mem_of_getElem? (i := 23) rfl)
theorem dX5_keep_42 : decode cX5_keep 42 = .ok (.ireturn, 1) := da_60 (42, .ireturn, 1) (List.mem_of_getElem? (i := 24) rfl)
set_option maxRecDepth 20000 in
theorem ggX5_turn_X1_isOfKind : GoodIn wsX5_turn wsX1_isOfKind := goodIn_r _ [8, 9, 10, 11, 12, 7, 13, 14, 32, 33, 34, 35, 36, 37, 38, 39, 40, 41, 42, 43] rfl (by decide +kernel)
set_option maxRecDepth 20000 in
theorem gX5_turn_X1_isOfKind : GoodIn wsX5_turn (wsV RX5 97 RX1 yX1_isOfKind wsX1_isOfKind) := goodIn_app (goodIn_r _ [4, 5, 6, 7] rfl (by decide +kernel)) ggX5_turn_X1_isOfKind
set_option maxRecDepth 20000 in
theorem ggX5_turn_X5_forgetAnswers : GoodIn wsX5_turn wsX5_forgetAnswers := goodIn_r _ [19, 20, 21, 22, 23, 24, 25, 26, 27, 28, 29, 30, 31] rfl (by decide +kernel)
set_option maxRecDepth 20000 in
theorem gX5_turn_X5_forgetAnswers : GoodIn wsX5_turn (wsV RX5 73 RX5 yX5_forgetAnswers wsX5_forgetAnswers) := goodIn_app (goodIn_r _ [15, 16, 17, 18] rfl (by decide +kernel)) ggX5_turn_X5_forgetAnswers
def dq_61 : List (Nat × Jvm.ClassFile.Instr × Nat) := [(0, .aload_n 0, 1), (1, .getfield 10, 3), (4, .iload_n 1, 1), (5, .iconst 3, 1), (6, .invokevirtual 97, 3), (9, .ifCond .ne 5, 3), (12, .iconst 0, 1), (13, .ireturn, 1), (14, .aload_n 0, 1), (15, .getfield 10, 3), (18, .getfield 105, 3), (21, .iload_n 1, 1), (22, .iaload, 1), (23, .istore_n 2, 1), (24, .aload_n 0, 1), (25, .getfield 10, 3), (28, .getfield 105, 3), (31, .iload_n 1, 1), (32, .aload_n 0, 1), (33, .getfield 10, 3), (36, .getfield 108, 3), (39, .iload_n 1, 1), (40, .iaload, 1), (41, .iastore, 1), (42, .aload_n 0, 1), (43, .getfield 10, 3), (46, .getfield 108, 3), (49, .iload_n 1, 1), (50, .iload_n 2, 1), (51, .iastore, 1), (52, .aload_n 0, 1), (53, .invokevirtual 73, 3), (56, .iconst 1, 1), (57, .ireturn, 1)]
set_option maxRecDepth 20000 in
theorem da_61 : ∀ q ∈ dq_61, decode cX5_turn q.1 = .ok (q.2.1, q.2.2) := by decide +kernel
theorem dX5_turn_0 : decode cX5_turn 0 = .ok (.aload_n 0, 1) := da_61 (0, .aload_n 0, 1) (List.mem_of_getElem? (i := 0) rfl)
theorem dX5_turn_1 : decode cX5_turn 1 = .ok (.getfield 10, 3) := da_61 (1, .getfield 10, 3) (List.mem_of_getElem? (i := 1) rfl)
theorem dX5_turn_4 : decode cX5_turn 4 = .ok (.iload_n 1, 1) := da_61 (4, .iload_n 1, 1) (List.mem_of_getElem? (i := 2) rfl)
theorem dX5_turn_5 : decode cX5_turn 5 = .ok (.iconst 3, 1) := da_61 (5, .iconst 3, 1) (List.mem_of_getElem? (i := 3) rfl)
theorem dX5_turn_6 : decode cX5_turn 6 = .ok (.invokevirtual 97, 3) := da_61 (6, .invokevirtual 97, 3) (List.mem_of_getElem? (i := 4) rfl)
theorem dX5_turn_9 : decode cX5_turn 9 = .ok (.ifCond .ne 5, 3) := da_61 (9, .ifCond .ne 5, 3) (List.mem_of_getElem? (i := 5) rfl)
theorem dX5_turn_12 : decode cX5_turn 12 = .ok (.iconst 0, 1) := da_61 (12, .iconst 0, 1) (List.mem_of_getElem? (i := 6) rfl)
theorem dX5_turn_13 : decode cX5_turn 13 = .ok (.ireturn, 1) := da_61 (13, .ireturn, 1) (List.mem_of_getElem? (i := 7) rfl)
theorem dX5_turn_14 : decode cX5_turn 14 = .ok (.aload_n 0, 1) := da_61 (14, .aload_n 0, 1) (List.mem_of_getElem? (i := 8) rfl)
theorem dX5_turn_15 : decode cX5_turn 15 = .ok (.getfield 10, 3) := da_61 (15, .getfield 10, 3) (List.mem_of_getElem? (i := 9) rfl)
theorem dX5_turn_18 : decode cX5_turn 18 = .ok (.getfield 105, 3) := da_61 (18, .getfield 105, 3) (List.mem_of_getElem? (i := 10) rfl)
theorem dX5_turn_21 : decode cX5_turn 21 = .ok (.iload_n 1, 1) := da_61 (21, .iload_n 1, 1) (List.mem_of_getElem? (i := 11) rfl)
theorem dX5_turn_22 : decode cX5_turn 22 = .ok (.iaload, 1) := da_61 (22, .iaload, 1) (List.mem_of_getElem? (i := 12) rfl)
theorem dX5_turn_23 : decode cX5_turn 23 = .ok (.istore_n 2, 1) := da_61 (23, .istore_n 2, 1) (List.mem_of_getElem? (i := 13) rfl)
theorem dX5_turn_24 : decode cX5_turn 24 = .ok (.aload_n 0, 1) := da_61 (24, .aload_n 0, 1) (List.mem_of_getElem? (i := 14) rfl)
theorem dX5_turn_25 : decode cX5_turn 25 = .ok (.getfield 10, 3) := da_61 (25, .getfield 10, 3) (List.mem_of_getElem? (i := 15) rfl)
theorem dX5_turn_28 : decode cX5_turn 28 = .ok (.getfield 105, 3) := da_61 (28, .getfield 105, 3) (List.mem_of_getElem? (i := 16) rfl)
theorem dX5_turn_31 : decode cX5_turn 31 = .ok (.iload_n 1, 1) := da_61 (31, .iload_n 1, 1) (List.mem_of_getElem? (i := 17) rfl)
theorem dX5_turn_32 : decode cX5_turn 32 = .ok (.aload_n 0, 1) := da_61 (32, .aload_n 0, 1) (List.mem_of_getElem? (i := 18) rfl)
theorem dX5_turn_33 : decode cX5_turn 33 = .ok (.getfield 10, 3) := da_61 (33, .getfield 10, 3) (List.mem_of_getElem? (i := 19) rfl)
theorem dX5_turn_36 : decode cX5_turn 36 = .ok (.getfield 108, 3) := da_61 (36, .getfield 108, 3) (List.mem_of_getElem? (i := 20) rfl)
theorem dX5_turn_39 : decode cX5_turn 39 = .ok (.iload_n 1, 1) := da_61 (39, .iload_n 1, 1) (List.mem_of_getElem? (i := 21) rfl)
theorem dX5_turn_40 : decode cX5_turn 40 = .ok (.iaload, 1) := da_61 (40, .iaload, 1) (List.mem_of_getElem? (i := 22) rfl)
theorem dX5_turn_41 : decode cX5_turn 41 = .ok (.iastore, 1) := da_61 (41, .iastore, 1) (List.mem_of_getElem? (i := 23) rfl)
theorem dX5_turn_42 : decode cX5_turn 42 = .ok (.aload_n 0, 1) := da_61 (42, .aload_n 0, 1) (List.mem_of_getElem? (i := 24) rfl)
theorem dX5_turn_43 : decode cX5_turn 43 = .ok (.getfield 10, 3) := da_61 (43, .getfield 10, 3) (List.mem_of_getElem? (i := 25) rfl)
theorem dX5_turn_46 : decode cX5_turn 46 = .ok (.getfield 108, 3) := da_61 (46, .getfield 108, 3) (List.mem_of_getElem? (i := 26) rfl)
theorem dX5_turn_49 : decode cX5_turn 49 = .ok (.iload_n 1, 1) := da_61 (49, .iload_n 1, 1) (List.mem_of_getElem? (i := 27) rfl)
theorem dX5_turn_50 : decode cX5_turn 50 = .ok (.iload_n 2, 1) := da_61 (50, .iload_n 2, 1) (List.mem_of_getElem? (i := 28) rfl)
theorem dX5_turn_51 : decode cX5_turn 51 = .ok (.iastore, 1) := da_61 (51, .iastore, 1) (List.mem_of_getElem? (i := 29) rfl)
theorem dX5_turn_52 : decode cX5_turn 52 = .ok (.aload_n 0, 1) := da_61 (52, .aload_n 0, 1) (List.mem_of_getElem? (i := 30) rfl)
theorem dX5_turn_53 : decode cX5_turn 53 = .ok (.invokevirtual 73, 3) := da_61 (53, .invokevirtual 73, 3) (List.mem_of_getElem? (i := 31) rfl)
theorem dX5_turn_56 : decode cX5_turn 56 = .ok (.iconst 1, 1) := da_61 (56, .iconst 1, 1) (List.mem_of_getElem? (i := 32) rfl)
theorem dX5_turn_57 : decode cX5_turn 57 = .ok (.ireturn, 1) := da_61 (57, .ireturn, 1) (List.mem_of_getElem? (i := 33) rfl)
set_option maxRecDepth 20000 in
theorem ggX5_cancel_X5_isIn : GoodIn wsX5_cancel wsX5_isIn := goodIn_r _ [6] rfl (by decide +kernel)
set_option maxRecDepth 20000 in
theorem gX5_cancel_X5_isIn : GoodIn wsX5_cancel (va_wsS RX5 65 yX5_isIn wsX5_isIn) := goodIn_app (goodIn_r _ [3, 4, 5] rfl (by decide +kernel)) ggX5_cancel_X5_isIn
set_option maxRecDepth 20000 in
theorem ggX5_cancel_X1_setCancelled : GoodIn wsX5_cancel wsX1_setCancelled := goodIn_r _ [11, 12, 13, 14, 15, 32, 33, 34, 35, 36, 37, 38, 39, 40, 41, 42, 43] rfl (by decide +kernel)
set_option maxRecDepth 20000 in
theorem gX5_cancel_X1_setCancelled : GoodIn wsX5_cancel (wsV RX5 114 RX1 yX1_setCancelled wsX1_setCancelled) := goodIn_app (goodIn_r _ [7, 8, 9, 10] rfl (by decide +kernel)) ggX5_cancel_X1_setCancelled
set_option maxRecDepth 20000 in
theorem ggX5_cancel_X5_forgetAnswers : GoodIn wsX5_cancel wsX5_forgetAnswers := goodIn_r _ [19, 20, 21, 22, 23, 24, 25, 26, 27, 28, 29, 30, 31] rfl (by decide +kernel)
set_option maxRecDepth 20000 in
theorem gX5_cancel_X5_forgetAnswers : GoodIn wsX5_cancel (wsV RX5 73 RX5 yX5_forgetAnswers wsX5_forgetAnswers) := goodIn_app (goodIn_r _ [16, 17, 18, 5] rfl (by decide +kernel)) ggX5_cancel_X5_forgetAnswers
def dq_62 : List (Nat × Jvm.ClassFile.Instr × Nat) := [(0, .iload_n 1, 1), (1, .iconst 0, 1), (2, .bipush 15, 2), (4, .invokestatic 65, 3), (7, .ifCond .eq 16, 3), (10, .aload_n 0, 1), (11, .getfield 10, 3), (14, .getfield 111, 3), (17, .iload_n 1, 1), (18, .baload, 1), (19, .iload_n 2, 1), (20, .if_icmp .ne 5, 3), (23, .iconst 0, 1), (24, .ireturn, 1), (25, .aload_n 0, 1), (26, .getfield 10, 3), (29, .iload_n 1, 1), (30, .iload_n 2, 1), (31, .invokevirtual 114, 3), (34, .aload_n 0, 1), (35, .invokevirtual 73, 3), (38, .iconst 1, 1), (39, .ireturn, 1)]
set_option maxRecDepth 20000 in
theorem da_62 : ∀ q ∈ dq_62, decode cX5_cancel q.1 = .ok (q.2.1, q.2.2) := by decide +kernel
theorem dX5_cancel_0 : decode cX5_cancel 0 = .ok (.iload_n 1, 1) := da_62 (0, .iload_n 1, 1) (List.mem_of_getElem? (i := 0) rfl)
theorem dX5_cancel_1 : decode cX5_cancel 1 = .ok (.iconst 0, 1) := da_62 (1, .iconst 0, 1) (List.mem_of_getElem? (i := 1) rfl)
theorem dX5_cancel_2 : decode cX5_cancel 2 = .ok (.bipush 15, 2) := da_62 (2, .bipush 15, 2) (List.mem_of_getElem? (i := 2) rfl)
theorem dX5_cancel_4 : decode cX5_cancel 4 = .ok (.invokestatic 65, 3) := da_62 (4, .invokestatic 65, 3) (List.mem_of_getElem? (i := 3) rfl)
theorem dX5_cancel_7 : decode cX5_cancel 7 = .ok (.ifCond .eq 16, 3) := da_62 (7, .ifCond .eq 16, 3) (List.mem_of_getElem? (i := 4) rfl)
theorem dX5_cancel_10 : decode cX5_cancel 10 = .ok (.aload_n 0, 1) := da_62 (10, .aload_n 0, 1) (List.mem_of_getElem? (i := 5) rfl)
theorem dX5_cancel_11 : decode cX5_cancel 11 = .ok (.getfield 10, 3) := da_62 (11, .getfield 10, 3) (List.mem_of_getElem? (i := 6) rfl)
theorem dX5_cancel_14 : decode cX5_cancel 14 = .ok (.getfield 111, 3) := da_62 (14, .getfield 111, 3) (List.mem_of_getElem? (i := 7) rfl)
theorem dX5_cancel_17 : decode cX5_cancel 17 = .ok (.iload_n 1, 1) := da_62 (17, .iload_n 1, 1) (List.mem_of_getElem? (i := 8) rfl)
theorem dX5_cancel_18 : decode cX5_cancel 18 = .ok (.baload, 1) := da_62 (18, .baload, 1) (List.mem_of_getElem? (i := 9) rfl)
theorem dX5_cancel_19 : decode cX5_cancel 19 = .ok (.iload_n 2, 1) := da_62 (19, .iload_n 2, 1) (List.mem_of_getElem? (i := 10) rfl)
theorem dX5_cancel_20 : decode cX5_cancel 20 = .ok (.if_icmp .ne 5, 3) := da_62 (20, .if_icmp .ne 5, 3) (List.mem_of_getElem? (i := 11) rfl)
theorem dX5_cancel_23 : decode cX5_cancel 23 = .ok (.iconst 0, 1) := da_62 (23, .iconst 0, 1) (List.mem_of_getElem? (i := 12) rfl)
theorem dX5_cancel_24 : decode cX5_cancel 24 = .ok (.ireturn, 1) := da_62 (24, .ireturn, 1) (List.mem_of_getElem? (i := 13) rfl)
theorem dX5_cancel_25 : decode cX5_cancel 25 = .ok (.aload_n 0, 1) := da_62 (25, .aload_n 0, 1) (List.mem_of_getElem? (i := 14) rfl)
theorem dX5_cancel_26 : decode cX5_cancel 26 = .ok (.getfield 10, 3) := da_62 (26, .getfield 10, 3) (List.mem_of_getElem? (i := 15) rfl)
theorem dX5_cancel_29 : decode cX5_cancel 29 = .ok (.iload_n 1, 1) := da_62 (29, .iload_n 1, 1) (List.mem_of_getElem? (i := 16) rfl)
theorem dX5_cancel_30 : decode cX5_cancel 30 = .ok (.iload_n 2, 1) := da_62 (30, .iload_n 2, 1) (List.mem_of_getElem? (i := 17) rfl)
theorem dX5_cancel_31 : decode cX5_cancel 31 = .ok (.invokevirtual 114, 3) := da_62 (31, .invokevirtual 114, 3) (List.mem_of_getElem? (i := 18) rfl)
theorem dX5_cancel_34 : decode cX5_cancel 34 = .ok (.aload_n 0, 1) := da_62 (34, .aload_n 0, 1) (List.mem_of_getElem? (i := 19) rfl)
theorem dX5_cancel_35 : decode cX5_cancel 35 = .ok (.invokevirtual 73, 3) := da_62 (35, .invokevirtual 73, 3) (List.mem_of_getElem? (i := 20) rfl)
theorem dX5_cancel_38 : decode cX5_cancel 38 = .ok (.iconst 1, 1) := da_62 (38, .iconst 1, 1) (List.mem_of_getElem? (i := 21) rfl)
theorem dX5_cancel_39 : decode cX5_cancel 39 = .ok (.ireturn, 1) := da_62 (39, .ireturn, 1) (List.mem_of_getElem? (i := 22) rfl)
set_option maxRecDepth 20000 in
theorem ggX5_group_X5_isIn : GoodIn wsX5_group wsX5_isIn := goodIn_r _ [6] rfl (by decide +kernel)
set_option maxRecDepth 20000 in
theorem gX5_group_X5_isIn : GoodIn wsX5_group (va_wsS RX5 65 yX5_isIn wsX5_isIn) := goodIn_app (goodIn_r _ [3, 4, 5] rfl (by decide +kernel)) ggX5_group_X5_isIn
set_option maxRecDepth 20000 in
theorem ggX5_group_X4_canGo : GoodIn wsX5_group wsX4_canGo := goodIn_r _ [11, 12, 13, 14, 15, 16, 17, 18, 19, 20, 21, 22, 10, 23, 24, 25, 26, 27, 28, 29, 30, 31, 32, 33, 34, 35, 57, 58, 59, 60, 61, 62, 63, 64, 65, 66, 67, 68, 69, 70, 71, 72, 73, 74, 75, 76] rfl (by decide +kernel)
set_option maxRecDepth 20000 in
theorem gX5_group_X4_canGo : GoodIn wsX5_group (wsV RX5 121 RX4 yX4_canGo wsX4_canGo) := goodIn_app (goodIn_r _ [7, 8, 9, 10] rfl (by decide +kernel)) ggX5_group_X4_canGo
set_option maxRecDepth 20000 in
theorem ggX5_group_X4_add : GoodIn wsX5_group wsX4_add := goodIn_r _ [39, 40, 41, 42, 43, 44, 45, 46, 57, 58, 59, 60, 61, 62, 63, 64] rfl (by decide +kernel)
set_option maxRecDepth 20000 in
theorem gX5_group_X4_add : GoodIn wsX5_group (wsV RX5 125 RX4 yX4_add wsX4_add) := goodIn_app (goodIn_r _ [36, 37, 38, 10] rfl (by decide +kernel)) ggX5_group_X4_add
def dq_63 : List (Nat × Jvm.ClassFile.Instr × Nat) := [(0, .iload_n 1, 1), (1, .iconst 1, 1), (2, .sipush 1000, 3), (5, .invokestatic 65, 3), (8, .ifCond .eq 43, 3), (11, .iload 6, 2), (13, .iconst 0, 1), (14, .sipush 1000, 3), (17, .invokestatic 65, 3), (20, .ifCond .eq 31, 3), (23, .aload_n 0, 1), (24, .getfield 21, 3), (27, .getfield 118, 3), (30, .bipush 30, 2), (32, .if_icmp .ge 19, 3), (35, .aload_n 0, 1), (36, .getfield 21, 3), (39, .iload_n 2, 1), (40, .iload_n 3, 1), (41, .iload 4, 2), (43, .iload 5, 2), (45, .invokevirtual 121, 3), (48, .ifCond .ne 5, 3), (51, .iconst (-1), 1), (52, .ireturn, 1), (53, .aload_n 0, 1), (54, .getfield 21, 3), (57, .iload_n 1, 1), (58, .iload_n 2, 1), (59, .iload_n 3, 1), (60, .iload 4, 2), (62, .iload 5, 2), (64, .iload 6, 2), (66, .invokevirtual 125, 3), (69, .ireturn, 1)]
set_option maxRecDepth 20000 in
theorem da_63 : ∀ q ∈ dq_63, decode cX5_group q.1 = .ok (q.2.1, q.2.2) := by decide +kernel
theorem dX5_group_0 : decode cX5_group 0 = .ok (.iload_n 1, 1) := da_63 (0, .iload_n 1, 1) (List.mem_of_getElem? (i := 0) rfl)
theorem dX5_group_1 : decode cX5_group 1 = .ok (.iconst 1, 1) := da_63 (1, .iconst 1, 1) (List.mem_of_getElem? (i := 1) rfl)
theorem dX5_group_2 : decode cX5_group 2 = .ok (.sipush 1000, 3) := da_63 (2, .sipush 1000, 3) (List.mem_of_getElem? (i := 2) rfl)
theorem dX5_group_5 : decode cX5_group 5 = .ok (.invokestatic 65, 3) := da_63 (5, .invokestatic 65, 3) (List.mem_of_getElem? (i := 3) rfl)
theorem dX5_group_8 : decode cX5_group 8 = .ok (.ifCond .eq 43, 3) := da_63 (8, .ifCond .eq 43, 3) (List.mem_of_getElem? (i := 4) rfl)
theorem dX5_group_11 : decode cX5_group 11 = .ok (.iload 6, 2) := da_63 (11, .iload 6, 2) (List.mem_of_getElem? (i := 5) rfl)
theorem dX5_group_13 : decode cX5_group 13 = .ok (.iconst 0, 1) := da_63 (13, .iconst 0, 1) (List.mem_of_getElem? (i := 6) rfl)
theorem dX5_group_14 : decode cX5_group 14 = .ok (.sipush 1000, 3) := da_63 (14, .sipush 1000, 3) (List.mem_of_getElem? (i := 7) rfl)
theorem dX5_group_17 : decode cX5_group 17 = .ok (.invokestatic 65, 3) := da_63 (17, .invokestatic 65, 3) (List.mem_of_getElem? (i := 8) rfl)
theorem dX5_group_20 : decode cX5_group 20 = .ok (.ifCond .eq 31, 3) := da_63 (20, .ifCond .eq 31, 3) (List.mem_of_getElem? (i := 9) rfl)
theorem dX5_group_23 : decode cX5_group 23 = .ok (.aload_n 0, 1) := da_63 (23, .aload_n 0, 1) (List.mem_of_getElem? (i := 10) rfl)
theorem dX5_group_24 : decode cX5_group 24 = .ok (.getfield 21, 3) := da_63 (24, .getfield 21, 3) (List.mem_of_getElem? (i := 11) rfl)
theorem dX5_group_27 : decode cX5_group 27 = .ok (.getfield 118, 3) := da_63 (27, .getfield 118, 3) (List.mem_of_getElem? (i := 12) rfl)
theorem dX5_group_30 : decode cX5_group 30 = .ok (.bipush 30, 2) := da_63 (30, .bipush 30, 2) (List.mem_of_getElem? (i := 13) rfl)
theorem dX5_group_32 : decode cX5_group 32 = .ok (.if_icmp .ge 19, 3) := da_63 (32, .if_icmp .ge 19, 3) (List.mem_of_getElem? (i := 14) rfl)
theorem dX5_group_35 : decode cX5_group 35 = .ok (.aload_n 0, 1) := da_63 (35, .aload_n 0, 1) (List.mem_of_getElem? (i := 15) rfl)
theorem dX5_group_36 : decode cX5_group 36 = .ok (.getfield 21, 3) := da_63 (36, .getfield 21, 3) (List.mem_of_getElem? (i := 16) rfl)
theorem dX5_group_39 : decode cX5_group 39 = .ok (.iload_n 2, 1) := da_63 (39, .iload_n 2, 1) (List.mem_of_getElem? (i := 17) rfl)
theorem dX5_group_40 : decode cX5_group 40 = .ok (.iload_n 3, 1) := da_63 (40, .iload_n 3, 1) (List.mem_of_getElem? (i := 18) rfl)
theorem dX5_group_41 : decode cX5_group 41 = .ok (.iload 4, 2) := da_63 (41, .iload 4, 2) (List.mem_of_getElem? (i := 19) rfl)
theorem dX5_group_43 : decode cX5_group 43 = .ok (.iload 5, 2) := da_63 (43, .iload 5, 2) (List.mem_of_getElem? (i := 20) rfl)
theorem dX5_group_45 : decode cX5_group 45 = .ok (.invokevirtual 121, 3) := da_63 (45, .invokevirtual 121, 3) (List.mem_of_getElem? (i := 21) rfl)
theorem dX5_group_48 : decode cX5_group 48 = .ok (.ifCond .ne 5, 3) := da_63 (48, .ifCond .ne 5, 3) (List.mem_of_getElem? (i := 22) rfl)
theorem dX5_group_51 : decode cX5_group 51 = .ok (.iconst (-1), 1) := da_63 (51, .iconst (-1), 1) (List.mem_of_getElem? (i := 23) rfl)
theorem dX5_group_52 : decode cX5_group 52 = .ok (.ireturn, 1) := da_63 (52, .ireturn, 1) (List.mem_of_getElem? (i := 24) rfl)
theorem dX5_group_53 : decode cX5_group 53 = .ok (.aload_n 0, 1) := da_63 (53, .aload_n 0, 1) (List.mem_of_getElem? (i := 25) rfl)
theorem dX5_group_54 : decode cX5_group 54 = .ok (.getfield 21, 3) := da_63 (54, .getfield 21, 3) (List.mem_of_getElem? (i := 26) rfl)
theorem dX5_group_57 : decode cX5_group 57 = .ok (.iload_n 1, 1) := da_63 (57, .iload_n 1, 1) (List.mem_of_getElem? (i := 27) rfl)
theorem dX5_group_58 : decode cX5_group 58 = .ok (.iload_n 2, 1) := da_63 (58, .iload_n 2, 1) (List.mem_of_getElem? (i := 28) rfl)
theorem dX5_group_59 : decode cX5_group 59 = .ok (.iload_n 3, 1) := da_63 (59, .iload_n 3, 1) (List.mem_of_getElem? (i := 29) rfl)
theorem dX5_group_60 : decode cX5_group 60 = .ok (.iload 4, 2) := da_63 (60, .iload 4, 2) (List.mem_of_getElem? (i := 30) rfl)
theorem dX5_group_62 : decode cX5_group 62 = .ok (.iload 5, 2) := da_63 (62, .iload 5, 2) (List.mem_of_getElem? (i := 31) rfl)
theorem dX5_group_64 : decode cX5_group 64 = .ok (.iload 6, 2) := da_63 (64, .iload 6, 2) (List.mem_of_getElem? (i := 32) rfl)
theorem dX5_group_66 : decode cX5_group 66 = .ok (.invokevirtual 125, 3) := da_63 (66, .invokevirtual 125, 3) (List.mem_of_getElem? (i := 33) rfl)
theorem dX5_group_69 : decode cX5_group 69 = .ok (.ireturn, 1) := da_63 (69, .ireturn, 1) (List.mem_of_getElem? (i := 34) rfl)
set_option maxRecDepth 20000 in
theorem ggX5_spread_X5_knowSpread : GoodIn wsX5_spread wsX5_knowSpread := goodIn_r _ [5, 6, 7, 8, 9, 10, 11, 12, 13, 14, 15, 16, 17, 18, 19, 20, 21, 22, 23, 24, 25, 26, 27, 28, 29, 30, 31, 32, 33, 34, 35, 36, 37, 38, 39, 40, 41, 42, 43, 47, 48, 49, 50, 51, 52, 53, 54, 55, 56, 57, 58, 59, 60, 61, 62, 63, 64, 65, 66, 67, 68] rfl (by decide +kernel)
set_option maxRecDepth 20000 in
theorem gX5_spread_X5_knowSpread : GoodIn wsX5_spread (wsV RX5 129 RX5 yX5_knowSpread wsX5_knowSpread) := goodIn_app (goodIn_r _ [1, 2, 3, 4] rfl (by decide +kernel)) ggX5_spread_X5_knowSpread
set_option maxRecDepth 20000 in
theorem ggX5_spread_X5_asNumber : GoodIn wsX5_spread wsX5_asNumber := goodIn_r _ [46] rfl (by decide +kernel)
set_option maxRecDepth 20000 in
theorem gX5_spread_X5_asNumber : GoodIn wsX5_spread (va_wsS RX5 133 yX5_asNumber wsX5_asNumber) := goodIn_app (goodIn_r _ [44, 45, 4] rfl (by decide +kernel)) ggX5_spread_X5_asNumber
def dq_64 : List (Nat × Jvm.ClassFile.Instr × Nat) := [(0, .aload_n 0, 1), (1, .invokevirtual 129, 3), (4, .invokestatic 133, 3), (7, .ireturn, 1)]
set_option maxRecDepth 20000 in
theorem da_64 : ∀ q ∈ dq_64, decode cX5_spread q.1 = .ok (q.2.1, q.2.2) := by decide +kernel
theorem dX5_spread_0 : decode cX5_spread 0 = .ok (.aload_n 0, 1) := da_64 (0, .aload_n 0, 1) (List.mem_of_getElem? (i := 0) rfl)
theorem dX5_spread_1 : decode cX5_spread 1 = .ok (.invokevirtual 129, 3) := da_64 (1, .invokevirtual 129, 3) (List.mem_of_getElem? (i := 1) rfl)
theorem dX5_spread_4 : decode cX5_spread 4 = .ok (.invokestatic 133, 3) := da_64 (4, .invokestatic 133, 3) (List.mem_of_getElem? (i := 2) rfl)
theorem dX5_spread_7 : decode cX5_spread 7 = .ok (.ireturn, 1) := da_64 (7, .ireturn, 1) (List.mem_of_getElem? (i := 3) rfl)
set_option maxRecDepth 20000 in
theorem ggX5_of_X1_hasEvent : GoodIn wsX5_of wsX1_hasEvent := goodIn_r _ [11, 12, 62, 63, 64, 65, 66, 67, 68, 69, 70, 71, 72, 73] rfl (by decide +kernel)
set_option maxRecDepth 20000 in
theorem gX5_of_X1_hasEvent : GoodIn wsX5_of (wsV RX5 90 RX1 yX1_hasEvent wsX1_hasEvent) := goodIn_app (goodIn_r _ [7, 8, 9, 10] rfl (by decide +kernel)) ggX5_of_X1_hasEvent
set_option maxRecDepth 20000 in
theorem ggX5_of_X5_knowSpread : GoodIn wsX5_of wsX5_knowSpread := goodIn_r _ [17, 18, 1, 3, 19, 20, 21, 22, 10, 23, 12, 24, 25, 26, 27, 28, 29, 30, 31, 32, 33, 34, 35, 36, 37, 38, 39, 40, 41, 42, 43, 44, 45, 46, 47, 48, 49, 50, 51, 52, 53, 54, 55, 56, 57, 58, 59, 60, 61, 62, 63, 64, 65, 66, 67, 68, 69, 70, 71, 72, 73] rfl (by decide +kernel)
set_option maxRecDepth 20000 in
theorem gX5_of_X5_knowSpread : GoodIn wsX5_of (wsV RX5 129 RX5 yX5_knowSpread wsX5_knowSpread) := goodIn_app (goodIn_r _ [13, 14, 15, 16] rfl (by decide +kernel)) ggX5_of_X5_knowSpread
def dq_65 : List (Nat × Jvm.ClassFile.Instr × Nat) := [(0, .aload_n 0, 1), (1, .getfield 10, 3), (4, .iload_n 1, 1), (5, .invokevirtual 90, 3), (8, .ifCond .ne 5, 3), (11, .iconst (-1), 1), (12, .ireturn, 1), (13, .iload_n 2, 1), (14, .tableswitch 134 0 4 #[34, 64, 104, 114, 124], 34), (48, .aload_n 0, 1), (49, .invokevirtual 129, 3), (52, .ifCond .eq 24, 3), (55, .aload_n 0, 1), (56, .getfield 10, 3), (59, .getfield 137, 3), (62, .iload_n 1, 1), (63, .baload, 1), (64, .ifCond .eq 12, 3), (67, .aload_n 0, 1), (68, .getfield 48, 3), (71, .iload_n 1, 1), (72, .iaload, 1), (73, .goto 4, 3), (76, .iconst (-1), 1), (77, .ireturn, 1), (78, .aload_n 0, 1), (79, .invokevirtual 129, 3), (82, .ifCond .eq 34, 3), (85, .aload_n 0, 1), (86, .getfield 10, 3), (89, .getfield 137, 3), (92, .iload_n 1, 1), (93, .baload, 1), (94, .ifCond .eq 22, 3), (97, .aload_n 0, 1), (98, .getfield 48, 3), (101, .iload_n 1, 1), (102, .iaload, 1), (103, .aload_n 0, 1), (104, .getfield 10, 3), (107, .getfield 140, 3), (110, .iload_n 1, 1), (111, .iaload, 1), (112, .isub, 1), (113, .goto 4, 3), (116, .iconst (-1), 1), (117, .ireturn, 1), (118, .aload_n 0, 1), (119, .getfield 10, 3), (122, .getfield 140, 3)]
set_option maxRecDepth 20000 in
theorem da_65 : ∀ q ∈ dq_65, decode cX5_of q.1 = .ok (q.2.1, q.2.2) := by decide +kernel
theorem dX5_of_0 : decode cX5_of 0 = .ok (.aload_n 0, 1) := da_65 (0, .aload_n 0, 1) (List.mem_of_getElem? (i := 0) rfl)
theorem dX5_of_1 : decode cX5_of 1 = .ok (.getfield 10, 3) := da_65 (1, .getfield 10, 3) (List.mem_of_getElem? (i := 1) rfl)
theorem dX5_of_4 : decode cX5_of 4 = .ok (.iload_n 1, 1) := da_65 (4, .iload_n 1, 1) (List.mem_of_getElem? (i := 2) rfl)
theorem dX5_of_5 : decode cX5_of 5 = .ok (.invokevirtual 90, 3) := da_65 (5, .invokevirtual 90, 3) (List.mem_of_getElem? (i := 3) rfl)
theorem dX5_of_8 : decode cX5_of 8 = .ok (.ifCond .ne 5, 3) := da_65 (8, .ifCond .ne 5, 3) (List.mem_of_getElem? (i := 4) rfl)
theorem dX5_of_11 : decode cX5_of 11 = .ok (.iconst (-1), 1) := da_65 (11, .iconst (-1), 1) (List.mem_of_getElem? (i := 5) rfl)
theorem dX5_of_12 : decode cX5_of 12 = .ok (.ireturn, 1) := da_65 (12, .ireturn, 1) (List.mem_of_getElem? (i := 6) rfl)
theorem dX5_of_13 : decode cX5_of 13 = .ok (.iload_n 2, 1) := da_65 (13, .iload_n 2, 1) (List.mem_of_getElem? (i := 7) rfl)
theorem dX5_of_14 : decode cX5_of 14 = .ok (.tableswitch 134 0 4 #[34, 64, 104, 114, 124], 34) := da_65 (14, .tableswitch 134 0 4 #[34, 64, 104, 114, 124], 34) (List.mem_of_getElem? (i := 8) rfl)
theorem dX5_of_48 : decode cX5_of 48 = .ok (.aload_n 0, 1) := da_65 (48, .aload_n 0, 1) (List.mem_of_getElem? (i := 9) rfl)
theorem dX5_of_49 : decode cX5_of 49 = .ok (.invokevirtual 129, 3) := da_65 (49, .invokevirtual 129, 3) (List.mem_of_getElem? (i := 10) rfl)
theorem dX5_of_52 : decode cX5_of 52 = .ok (.ifCond .eq 24, 3) := da_65 (52, .ifCond .eq 24, 3) (List.mem_of_getElem? (i := 11) rfl)
theorem dX5_of_55 : decode cX5_of 55 = .ok (.aload_n 0, 1) := da_65 (55, .aload_n 0, 1) (List.mem_of_getElem? (i := 12) rfl)
theorem dX5_of_56 : decode cX5_of 56 = .ok (.getfield 10, 3) := da_65 (56, .getfield 10, 3) (List.mem_of_getElem? (i := 13) rfl)
theorem dX5_of_59 : decode cX5_of 59 = .ok (.getfield 137, 3) := da_65 (59, .getfield 137, 3) (List.mem_of_getElem? (i := 14) rfl)
theorem dX5_of_62 : decode cX5_of 62 = .ok (.iload_n 1, 1) := da_65 (62, .iload_n 1, 1) (List.mem_of_getElem? (i := 15) rfl)
theorem dX5_of_63 : decode cX5_of 63 = .ok (.baload, 1) := da_65 (63, .baload, 1) (List.mem_of_getElem? (i := 16) rfl)
theorem dX5_of_64 : decode cX5_of 64 = .ok (.ifCond .eq 12, 3) := da_65 (64, .ifCond .eq 12, 3) (List.mem_of_getElem? (i := 17) rfl)
theorem dX5_of_67 : decode cX5_of 67 = .ok (.aload_n 0, 1) := da_65 (67, .aload_n 0, 1) (List.mem_of_getElem? (i := 18) rfl)
theorem dX5_of_68 : decode cX5_of 68 = .ok (.getfield 48, 3) := da_65 (68, .getfield 48, 3) (List.mem_of_getElem? (i := 19) rfl)
theorem dX5_of_71 : decode cX5_of 71 = .ok (.iload_n 1, 1) := da_65 (71, .iload_n 1, 1) (List.mem_of_getElem? (i := 20) rfl)
theorem dX5_of_72 : decode cX5_of 72 = .ok (.iaload, 1) := da_65 (72, .iaload, 1) (List.mem_of_getElem? (i := 21) rfl)
theorem dX5_of_73 : decode cX5_of 73 = .ok (.goto 4, 3) := da_65 (73, .goto 4, 3) (List.mem_of_getElem? (i := 22) rfl)
theorem dX5_of_76 : decode cX5_of 76 = .ok (.iconst (-1), 1) := da_65 (76, .iconst (-1), 1) (List.mem_of_getElem? (i := 23) rfl)
theorem dX5_of_77 : decode cX5_of 77 = .ok (.ireturn, 1) := da_65 (77, .ireturn, 1) (List.mem_of_getElem? (i := 24) rfl)
theorem dX5_of_78 : decode cX5_of 78 = .ok (.aload_n 0, 1) := da_65 (78, .aload_n 0, 1) (List.mem_of_getElem? (i := 25) rfl)
theorem dX5_of_79 : decode cX5_of 79 = .ok (.invokevirtual 129, 3) := da_65 (79, .invokevirtual 129, 3) (List.mem_of_getElem? (i := 26) rfl)
theorem dX5_of_82 : decode cX5_of 82 = .ok (.ifCond .eq 34, 3) := da_65 (82, .ifCond .eq 34, 3) (List.mem_of_getElem? (i := 27) rfl)
theorem dX5_of_85 : decode cX5_of 85 = .ok (.aload_n 0, 1) := da_65 (85, .aload_n 0, 1) (List.mem_of_getElem? (i := 28) rfl)
theorem dX5_of_86 : decode cX5_of 86 = .ok (.getfield 10, 3) := da_65 (86, .getfield 10, 3) (List.mem_of_getElem? (i := 29) rfl)
theorem dX5_of_89 : decode cX5_of 89 = .ok (.getfield 137, 3) := da_65 (89, .getfield 137, 3) (List.mem_of_getElem? (i := 30) rfl)
theorem dX5_of_92 : decode cX5_of 92 = .ok (.iload_n 1, 1) := da_65 (92, .iload_n 1, 1) (List.mem_of_getElem? (i := 31) rfl)
theorem dX5_of_93 : decode cX5_of 93 = .ok (.baload, 1) := da_65 (93, .baload, 1) (List.mem_of_getElem? (i := 32) rfl)
theorem dX5_of_94 : decode cX5_of 94 = .ok (.ifCond .eq 22, 3) := da_65 (94, .ifCond .eq 22, 3) (List.mem_of_getElem? (i := 33) rfl)
theorem dX5_of_97 : decode cX5_of 97 = .ok (.aload_n 0, 1) := da_65 (97, .aload_n 0, 1) (List.mem_of_getElem? (i := 34) rfl)
theorem dX5_of_98 : decode cX5_of 98 = .ok (.getfield 48, 3) := da_65 (98, .getfield 48, 3) (List.mem_of_getElem? (i := 35) rfl)
theorem dX5_of_101 : decode cX5_of 101 = .ok (.iload_n 1, 1) := da_65 (101, .iload_n 1, 1) (List.mem_of_getElem? (i := 36) rfl)
theorem dX5_of_102 : decode cX5_of 102 = .ok (.iaload, 1) := da_65 (102, .iaload, 1) (List.mem_of_getElem? (i := 37) rfl)
theorem dX5_of_103 : decode cX5_of 103 = .ok (.aload_n 0, 1) := da_65 (103, .aload_n 0, 1) (List.mem_of_getElem? (i := 38) rfl)
theorem dX5_of_104 : decode cX5_of 104 = .ok (.getfield 10, 3) := da_65 (104, .getfield 10, 3) (List.mem_of_getElem? (i := 39) rfl)
theorem dX5_of_107 : decode cX5_of 107 = .ok (.getfield 140, 3) := da_65 (107, .getfield 140, 3) (List.mem_of_getElem? (i := 40) rfl)
theorem dX5_of_110 : decode cX5_of 110 = .ok (.iload_n 1, 1) := da_65 (110, .iload_n 1, 1) (List.mem_of_getElem? (i := 41) rfl)
theorem dX5_of_111 : decode cX5_of 111 = .ok (.iaload, 1) := da_65 (111, .iaload, 1) (List.mem_of_getElem? (i := 42) rfl)
theorem dX5_of_112 : decode cX5_of 112 = .ok (.isub, 1) := da_65 (112, .isub, 1) (List.mem_of_getElem? (i := 43) rfl)
theorem dX5_of_113 : decode cX5_of 113 = .ok (.goto 4, 3) := da_65 (113, .goto 4, 3) (List.mem_of_getElem? (i := 44) rfl)
theorem dX5_of_116 : decode cX5_of 116 = .ok (.iconst (-1), 1) := da_65 (116, .iconst (-1), 1) (List.mem_of_getElem? (i := 45) rfl)
theorem dX5_of_117 : decode cX5_of 117 = .ok (.ireturn, 1) := da_65 (117, .ireturn, 1) (List.mem_of_getElem? (i := 46) rfl)
theorem dX5_of_118 : decode cX5_of 118 = .ok (.aload_n 0, 1) := da_65 (118, .aload_n 0, 1) (List.mem_of_getElem? (i := 47) rfl)
theorem dX5_of_119 : decode cX5_of 119 = .ok (.getfield 10, 3) := da_65 (119, .getfield 10, 3) (List.mem_of_getElem? (i := 48) rfl)
theorem dX5_of_122 : decode cX5_of 122 = .ok (.getfield 140, 3) := da_65 (122, .getfield 140, 3) (List.mem_of_getElem? (i := 49) rfl)
def dq_66 : List (Nat × Jvm.ClassFile.Instr × Nat) := [(125, .iload_n 1, 1), (126, .iaload, 1), (127, .ireturn, 1), (128, .aload_n 0, 1), (129, .getfield 10, 3), (132, .getfield 94, 3), (135, .iload_n 1, 1), (136, .iaload, 1), (137, .ireturn, 1), (138, .aload_n 0, 1), (139, .getfield 10, 3), (142, .getfield 143, 3), (145, .iload_n 1, 1), (146, .iaload, 1), (147, .ireturn, 1), (148, .iconst (-1), 1), (149, .ireturn, 1)]
set_option maxRecDepth 20000 in
theorem da_66 : ∀ q ∈ dq_66, decode cX5_of q.1 = .ok (q.2.1, q.2.2) := by decide +kernel
theorem dX5_of_125 : decode cX5_of 125 = .ok (.iload_n 1, 1) := da_66 (125, .iload_n 1, 1) (List.mem_of_getElem? (i := 0) rfl)
theorem dX5_of_126 : decode cX5_of 126 = .ok (.iaload, 1) := da_66 (126, .iaload, 1) (List.mem_of_getElem? (i := 1) rfl)
theorem dX5_of_127 : decode cX5_of 127 = .ok (.ireturn, 1) := da_66 (127, .ireturn, 1) (List.mem_of_getElem? (i := 2) rfl)
theorem dX5_of_128 : decode cX5_of 128 = .ok (.aload_n 0, 1) := da_66 (128, .aload_n 0, 1) (List.mem_of_getElem? (i := 3) rfl)
theorem dX5_of_129 : decode cX5_of 129 = .ok (.getfield 10, 3) := da_66 (129, .getfield 10, 3) (List.mem_of_getElem? (i := 4) rfl)
theorem dX5_of_132 : decode cX5_of 132 = .ok (.getfield 94, 3) := da_66 (132, .getfield 94, 3) (List.mem_of_getElem? (i := 5) rfl)
theorem dX5_of_135 : decode cX5_of 135 = .ok (.iload_n 1, 1) := da_66 (135, .iload_n 1, 1) (List.mem_of_getElem? (i := 6) rfl)
theorem dX5_of_136 : decode cX5_of 136 = .ok (.iaload, 1) := da_66 (136, .iaload, 1) (List.mem_of_getElem? (i := 7) rfl)
theorem dX5_of_137 : decode cX5_of 137 = .ok (.ireturn, 1) := da_66 (137, .ireturn, 1) (List.mem_of_getElem? (i := 8) rfl)
theorem dX5_of_138 : decode cX5_of 138 = .ok (.aload_n 0, 1) := da_66 (138, .aload_n 0, 1) (List.mem_of_getElem? (i := 9) rfl)
theorem dX5_of_139 : decode cX5_of 139 = .ok (.getfield 10, 3) := da_66 (139, .getfield 10, 3) (List.mem_of_getElem? (i := 10) rfl)
theorem dX5_of_142 : decode cX5_of 142 = .ok (.getfield 143, 3) := da_66 (142, .getfield 143, 3) (List.mem_of_getElem? (i := 11) rfl)
theorem dX5_of_145 : decode cX5_of 145 = .ok (.iload_n 1, 1) := da_66 (145, .iload_n 1, 1) (List.mem_of_getElem? (i := 12) rfl)
theorem dX5_of_146 : decode cX5_of 146 = .ok (.iaload, 1) := da_66 (146, .iaload, 1) (List.mem_of_getElem? (i := 13) rfl)
theorem dX5_of_147 : decode cX5_of 147 = .ok (.ireturn, 1) := da_66 (147, .ireturn, 1) (List.mem_of_getElem? (i := 14) rfl)
theorem dX5_of_148 : decode cX5_of 148 = .ok (.iconst (-1), 1) := da_66 (148, .iconst (-1), 1) (List.mem_of_getElem? (i := 15) rfl)
theorem dX5_of_149 : decode cX5_of 149 = .ok (.ireturn, 1) := da_66 (149, .ireturn, 1) (List.mem_of_getElem? (i := 16) rfl)
set_option maxRecDepth 20000 in
theorem ggX5_look_X1_hasActivity : GoodIn wsX5_look wsX1_hasActivity := goodIn_r _ [11, 12, 77, 78, 79, 80, 81, 82, 83, 84, 85, 86, 87, 88] rfl (by decide +kernel)
set_option maxRecDepth 20000 in
theorem gX5_look_X1_hasActivity : GoodIn wsX5_look (wsV RX5 146 RX1 yX1_hasActivity wsX1_hasActivity) := goodIn_app (goodIn_r _ [7, 8, 9, 10] rfl (by decide +kernel)) ggX5_look_X1_hasActivity
set_option maxRecDepth 20000 in
theorem ggX5_look_X5_asNumber : GoodIn wsX5_look wsX5_asNumber := goodIn_r _ [16] rfl (by decide +kernel)
set_option maxRecDepth 20000 in
theorem gX5_look_X5_asNumber : GoodIn wsX5_look (va_wsS RX5 133 yX5_asNumber wsX5_asNumber) := goodIn_app (goodIn_r _ [13, 14, 15] rfl (by decide +kernel)) ggX5_look_X5_asNumber
set_option maxRecDepth 20000 in
theorem ggX5_look_X5_knowSpread : GoodIn wsX5_look wsX5_knowSpread := goodIn_r _ [20, 21, 1, 22, 23, 24, 25, 26, 10, 27, 28, 29, 30, 31, 32, 33, 34, 35, 36, 37, 38, 12, 39, 40, 41, 42, 43, 44, 45, 46, 47, 48, 49, 50, 51, 52, 53, 54, 55, 67, 68, 69, 70, 71, 72, 73, 74, 75, 76, 77, 78, 79, 80, 81, 82, 83, 84, 85, 86, 87, 88] rfl (by decide +kernel)
set_option maxRecDepth 20000 in
theorem gX5_look_X5_knowSpread : GoodIn wsX5_look (wsV RX5 129 RX5 yX5_knowSpread wsX5_knowSpread) := goodIn_app (goodIn_r _ [17, 18, 19, 15] rfl (by decide +kernel)) ggX5_look_X5_knowSpread
set_option maxRecDepth 20000 in
theorem ggX5_look_X5_binds : GoodIn wsX5_look wsX5_binds := goodIn_r _ [59, 1, 4, 22, 3, 5, 60, 61, 62, 52, 53, 10, 54, 55, 40, 39, 67, 68, 69, 70, 71, 72, 73, 74, 75, 76, 77, 78, 79, 80, 81, 82, 83, 84, 85, 86, 87, 88] rfl (by decide +kernel)
set_option maxRecDepth 20000 in
theorem gX5_look_X5_binds : GoodIn wsX5_look (wsV RX5 155 RX5 yX5_binds wsX5_binds) := goodIn_app (goodIn_r _ [56, 57, 58, 15] rfl (by decide +kernel)) ggX5_look_X5_binds
set_option maxRecDepth 20000 in
theorem ggX5_look_X1_slack : GoodIn wsX5_look wsX1_slack := goodIn_r _ [66, 29, 39, 40, 41, 77, 78, 79, 80, 81, 82, 83, 84, 85, 86, 87, 88] rfl (by decide +kernel)
set_option maxRecDepth 20000 in
theorem gX5_look_X1_slack : GoodIn wsX5_look (wsV RX5 158 RX1 yX1_slack wsX1_slack) := goodIn_app (goodIn_r _ [63, 64, 65, 10] rfl (by decide +kernel)) ggX5_look_X1_slack
def dq_67 : List (Nat × Jvm.ClassFile.Instr × Nat) := [(0, .aload_n 0, 1), (1, .getfield 10, 3), (4, .iload_n 1, 1), (5, .invokevirtual 146, 3), (8, .ifCond .ne 5, 3), (11, .iconst (-1), 1), (12, .ireturn, 1), (13, .iload_n 2, 1), (14, .tableswitch 128 0 6 #[42, 52, 62, 72, 82, 95, 119], 42), (56, .aload_n 0, 1), (57, .getfield 10, 3), (60, .getfield 149, 3), (63, .iload_n 1, 1), (64, .iaload, 1), (65, .ireturn, 1), (66, .aload_n 0, 1), (67, .getfield 10, 3), (70, .getfield 105, 3), (73, .iload_n 1, 1), (74, .iaload, 1), (75, .ireturn, 1), (76, .aload_n 0, 1), (77, .getfield 10, 3), (80, .getfield 108, 3), (83, .iload_n 1, 1), (84, .iaload, 1), (85, .ireturn, 1), (86, .aload_n 0, 1), (87, .getfield 10, 3), (90, .getfield 152, 3), (93, .iload_n 1, 1), (94, .iaload, 1), (95, .ireturn, 1), (96, .aload_n 0, 1), (97, .getfield 10, 3), (100, .getfield 101, 3), (103, .iload_n 1, 1), (104, .baload, 1), (105, .invokestatic 133, 3), (108, .ireturn, 1), (109, .aload_n 0, 1), (110, .invokevirtual 129, 3), (113, .ifCond .eq 15, 3), (116, .aload_n 0, 1), (117, .iload_n 1, 1), (118, .invokevirtual 155, 3), (121, .ifCond .eq 7, 3), (124, .iconst 1, 1), (125, .goto 4, 3), (128, .iconst 0, 1)]
set_option maxRecDepth 20000 in
theorem da_67 : ∀ q ∈ dq_67, decode cX5_look q.1 = .ok (q.2.1, q.2.2) := by decide +kernel
theorem dX5_look_0 : decode cX5_look 0 = .ok (.aload_n 0, 1) := da_67 (0, .aload_n 0, 1) (List.mem_of_getElem? (i := 0) rfl)
theorem dX5_look_1 : decode cX5_look 1 = .ok (.getfield 10, 3) := da_67 (1, .getfield 10, 3) (List.mem_of_getElem? (i := 1) rfl)
theorem dX5_look_4 : decode cX5_look 4 = .ok (.iload_n 1, 1) := da_67 (4, .iload_n 1, 1) (List.mem_of_getElem? (i := 2) rfl)
theorem dX5_look_5 : decode cX5_look 5 = .ok (.invokevirtual 146, 3) := da_67 (5, .invokevirtual 146, 3) (List.mem_of_getElem? (i := 3) rfl)
theorem dX5_look_8 : decode cX5_look 8 = .ok (.ifCond .ne 5, 3) := da_67 (8, .ifCond .ne 5, 3) (List.mem_of_getElem? (i := 4) rfl)
theorem dX5_look_11 : decode cX5_look 11 = .ok (.iconst (-1), 1) := da_67 (11, .iconst (-1), 1) (List.mem_of_getElem? (i := 5) rfl)
theorem dX5_look_12 : decode cX5_look 12 = .ok (.ireturn, 1) := da_67 (12, .ireturn, 1) (List.mem_of_getElem? (i := 6) rfl)
theorem dX5_look_13 : decode cX5_look 13 = .ok (.iload_n 2, 1) := da_67 (13, .iload_n 2, 1) (List.mem_of_getElem? (i := 7) rfl)
theorem dX5_look_14 : decode cX5_look 14 = .ok (.tableswitch 128 0 6 #[42, 52, 62, 72, 82, 95, 119], 42) := da_67 (14, .tableswitch 128 0 6 #[42, 52, 62, 72, 82, 95, 119], 42) (List.mem_of_getElem? (i := 8) rfl)
theorem dX5_look_56 : decode cX5_look 56 = .ok (.aload_n 0, 1) := da_67 (56, .aload_n 0, 1) (List.mem_of_getElem? (i := 9) rfl)
theorem dX5_look_57 : decode cX5_look 57 = .ok (.getfield 10, 3) := da_67 (57, .getfield 10, 3) (List.mem_of_getElem? (i := 10) rfl)
theorem dX5_look_60 : decode cX5_look 60 = .ok (.getfield 149, 3) := da_67 (60, .getfield 149, 3) (List.mem_of_getElem? (i := 11) rfl)
theorem dX5_look_63 : decode cX5_look 63 = .ok (.iload_n 1, 1) := da_67 (63, .iload_n 1, 1) (List.mem_of_getElem? (i := 12) rfl)
theorem dX5_look_64 : decode cX5_look 64 = .ok (.iaload, 1) := da_67 (64, .iaload, 1) (List.mem_of_getElem? (i := 13) rfl)
theorem dX5_look_65 : decode cX5_look 65 = .ok (.ireturn, 1) := da_67 (65, .ireturn, 1) (List.mem_of_getElem? (i := 14) rfl)
theorem dX5_look_66 : decode cX5_look 66 = .ok (.aload_n 0, 1) := da_67 (66, .aload_n 0, 1) (List.mem_of_getElem? (i := 15) rfl)
theorem dX5_look_67 : decode cX5_look 67 = .ok (.getfield 10, 3) := da_67 (67, .getfield 10, 3) (List.mem_of_getElem? (i := 16) rfl)
theorem dX5_look_70 : decode cX5_look 70 = .ok (.getfield 105, 3) := da_67 (70, .getfield 105, 3) (List.mem_of_getElem? (i := 17) rfl)
theorem dX5_look_73 : decode cX5_look 73 = .ok (.iload_n 1, 1) := da_67 (73, .iload_n 1, 1) (List.mem_of_getElem? (i := 18) rfl)
theorem dX5_look_74 : decode cX5_look 74 = .ok (.iaload, 1) := da_67 (74, .iaload, 1) (List.mem_of_getElem? (i := 19) rfl)
theorem dX5_look_75 : decode cX5_look 75 = .ok (.ireturn, 1) := da_67 (75, .ireturn, 1) (List.mem_of_getElem? (i := 20) rfl)
theorem dX5_look_76 : decode cX5_look 76 = .ok (.aload_n 0, 1) := da_67 (76, .aload_n 0, 1) (List.mem_of_getElem? (i := 21) rfl)
theorem dX5_look_77 : decode cX5_look 77 = .ok (.getfield 10, 3) := da_67 (77, .getfield 10, 3) (List.mem_of_getElem? (i := 22) rfl)
theorem dX5_look_80 : decode cX5_look 80 = .ok (.getfield 108, 3) := da_67 (80, .getfield 108, 3) (List.mem_of_getElem? (i := 23) rfl)
theorem dX5_look_83 : decode cX5_look 83 = .ok (.iload_n 1, 1) := da_67 (83, .iload_n 1, 1) (List.mem_of_getElem? (i := 24) rfl)
theorem dX5_look_84 : decode cX5_look 84 = .ok (.iaload, 1) := da_67 (84, .iaload, 1) (List.mem_of_getElem? (i := 25) rfl)
theorem dX5_look_85 : decode cX5_look 85 = .ok (.ireturn, 1) := da_67 (85, .ireturn, 1) (List.mem_of_getElem? (i := 26) rfl)
theorem dX5_look_86 : decode cX5_look 86 = .ok (.aload_n 0, 1) := da_67 (86, .aload_n 0, 1) (List.mem_of_getElem? (i := 27) rfl)
theorem dX5_look_87 : decode cX5_look 87 = .ok (.getfield 10, 3) := da_67 (87, .getfield 10, 3) (List.mem_of_getElem? (i := 28) rfl)
theorem dX5_look_90 : decode cX5_look 90 = .ok (.getfield 152, 3) := da_67 (90, .getfield 152, 3) (List.mem_of_getElem? (i := 29) rfl)
theorem dX5_look_93 : decode cX5_look 93 = .ok (.iload_n 1, 1) := da_67 (93, .iload_n 1, 1) (List.mem_of_getElem? (i := 30) rfl)
theorem dX5_look_94 : decode cX5_look 94 = .ok (.iaload, 1) := da_67 (94, .iaload, 1) (List.mem_of_getElem? (i := 31) rfl)
theorem dX5_look_95 : decode cX5_look 95 = .ok (.ireturn, 1) := da_67 (95, .ireturn, 1) (List.mem_of_getElem? (i := 32) rfl)
theorem dX5_look_96 : decode cX5_look 96 = .ok (.aload_n 0, 1) := da_67 (96, .aload_n 0, 1) (List.mem_of_getElem? (i := 33) rfl)
theorem dX5_look_97 : decode cX5_look 97 = .ok (.getfield 10, 3) := da_67 (97, .getfield 10, 3) (List.mem_of_getElem? (i := 34) rfl)
theorem dX5_look_100 : decode cX5_look 100 = .ok (.getfield 101, 3) := da_67 (100, .getfield 101, 3) (List.mem_of_getElem? (i := 35) rfl)
theorem dX5_look_103 : decode cX5_look 103 = .ok (.iload_n 1, 1) := da_67 (103, .iload_n 1, 1) (List.mem_of_getElem? (i := 36) rfl)
theorem dX5_look_104 : decode cX5_look 104 = .ok (.baload, 1) := da_67 (104, .baload, 1) (List.mem_of_getElem? (i := 37) rfl)
theorem dX5_look_105 : decode cX5_look 105 = .ok (.invokestatic 133, 3) := da_67 (105, .invokestatic 133, 3) (List.mem_of_getElem? (i := 38) rfl)
theorem dX5_look_108 : decode cX5_look 108 = .ok (.ireturn, 1) := da_67 (108, .ireturn, 1) (List.mem_of_getElem? (i := 39) rfl)
theorem dX5_look_109 : decode cX5_look 109 = .ok (.aload_n 0, 1) := da_67 (109, .aload_n 0, 1) (List.mem_of_getElem? (i := 40) rfl)
theorem dX5_look_110 : decode cX5_look 110 = .ok (.invokevirtual 129, 3) := da_67 (110, .invokevirtual 129, 3) (List.mem_of_getElem? (i := 41) rfl)
theorem dX5_look_113 : decode cX5_look 113 = .ok (.ifCond .eq 15, 3) := da_67 (113, .ifCond .eq 15, 3) (List.mem_of_getElem? (i := 42) rfl)
theorem dX5_look_116 : decode cX5_look 116 = .ok (.aload_n 0, 1) := da_67 (116, .aload_n 0, 1) (List.mem_of_getElem? (i := 43) rfl)
theorem dX5_look_117 : decode cX5_look 117 = .ok (.iload_n 1, 1) := da_67 (117, .iload_n 1, 1) (List.mem_of_getElem? (i := 44) rfl)
theorem dX5_look_118 : decode cX5_look 118 = .ok (.invokevirtual 155, 3) := da_67 (118, .invokevirtual 155, 3) (List.mem_of_getElem? (i := 45) rfl)
theorem dX5_look_121 : decode cX5_look 121 = .ok (.ifCond .eq 7, 3) := da_67 (121, .ifCond .eq 7, 3) (List.mem_of_getElem? (i := 46) rfl)
theorem dX5_look_124 : decode cX5_look 124 = .ok (.iconst 1, 1) := da_67 (124, .iconst 1, 1) (List.mem_of_getElem? (i := 47) rfl)
theorem dX5_look_125 : decode cX5_look 125 = .ok (.goto 4, 3) := da_67 (125, .goto 4, 3) (List.mem_of_getElem? (i := 48) rfl)
theorem dX5_look_128 : decode cX5_look 128 = .ok (.iconst 0, 1) := da_67 (128, .iconst 0, 1) (List.mem_of_getElem? (i := 49) rfl)
def dq_68 : List (Nat × Jvm.ClassFile.Instr × Nat) := [(129, .invokestatic 133, 3), (132, .ireturn, 1), (133, .aload_n 0, 1), (134, .getfield 10, 3), (137, .iload_n 1, 1), (138, .invokevirtual 158, 3), (141, .ireturn, 1), (142, .iconst (-1), 1), (143, .ireturn, 1)]
set_option maxRecDepth 20000 in
theorem da_68 : ∀ q ∈ dq_68, decode cX5_look q.1 = .ok (q.2.1, q.2.2) := by decide +kernel
theorem dX5_look_129 : decode cX5_look 129 = .ok (.invokestatic 133, 3) := da_68 (129, .invokestatic 133, 3) (List.mem_of_getElem? (i := 0) rfl)
theorem dX5_look_132 : decode cX5_look 132 = .ok (.ireturn, 1) := da_68 (132, .ireturn, 1) (List.mem_of_getElem? (i := 1) rfl)
theorem dX5_look_133 : decode cX5_look 133 = .ok (.aload_n 0, 1) := da_68 (133, .aload_n 0, 1) (List.mem_of_getElem? (i := 2) rfl)
theorem dX5_look_134 : decode cX5_look 134 = .ok (.getfield 10, 3) := da_68 (134, .getfield 10, 3) (List.mem_of_getElem? (i := 3) rfl)
theorem dX5_look_137 : decode cX5_look 137 = .ok (.iload_n 1, 1) := da_68 (137, .iload_n 1, 1) (List.mem_of_getElem? (i := 4) rfl)
theorem dX5_look_138 : decode cX5_look 138 = .ok (.invokevirtual 158, 3) := da_68 (138, .invokevirtual 158, 3) (List.mem_of_getElem? (i := 5) rfl)
theorem dX5_look_141 : decode cX5_look 141 = .ok (.ireturn, 1) := da_68 (141, .ireturn, 1) (List.mem_of_getElem? (i := 6) rfl)
theorem dX5_look_142 : decode cX5_look 142 = .ok (.iconst (-1), 1) := da_68 (142, .iconst (-1), 1) (List.mem_of_getElem? (i := 7) rfl)
theorem dX5_look_143 : decode cX5_look 143 = .ok (.ireturn, 1) := da_68 (143, .ireturn, 1) (List.mem_of_getElem? (i := 8) rfl)
set_option maxRecDepth 20000 in
theorem ggX5_cause_X5_knowSpread : GoodIn wsX5_cause wsX5_knowSpread := goodIn_r _ [5, 6, 7, 8, 9, 10, 11, 12, 13, 14, 15, 16, 17, 18, 19, 20, 21, 22, 23, 24, 25, 26, 27, 28, 29, 30, 31, 32, 33, 34, 35, 36, 37, 38, 39, 40, 41, 42, 43, 68, 69, 70, 71, 72, 73, 74, 75, 76, 77, 78, 79, 80, 81, 82, 83, 84, 85, 86, 87, 88, 89] rfl (by decide +kernel)
set_option maxRecDepth 20000 in
theorem gX5_cause_X5_knowSpread : GoodIn wsX5_cause (wsV RX5 129 RX5 yX5_knowSpread wsX5_knowSpread) := goodIn_app (goodIn_r _ [1, 2, 3, 4] rfl (by decide +kernel)) ggX5_cause_X5_knowSpread
set_option maxRecDepth 20000 in
theorem ggX5_cause_X5_isLate : GoodIn wsX5_cause wsX5_isLate := goodIn_r _ [47, 7, 48, 8, 49, 50, 51, 52, 13, 53, 15, 68, 69, 70, 71, 72, 73, 74, 75, 76, 77, 78, 79, 80, 81, 82, 83, 84, 85, 86, 87, 88, 89] rfl (by decide +kernel)
set_option maxRecDepth 20000 in
theorem gX5_cause_X5_isLate : GoodIn wsX5_cause (wsV RX5 162 RX5 yX5_isLate wsX5_isLate) := goodIn_app (goodIn_r _ [44, 45, 46, 4] rfl (by decide +kernel)) ggX5_cause_X5_isLate
set_option maxRecDepth 20000 in
theorem ggX5_cause_X5_causeOfLate : GoodIn wsX5_cause wsX5_causeOfLate := goodIn_r _ [57, 7, 58, 59, 60, 61, 62, 63, 4, 64, 8, 65, 49, 66, 67, 40, 41, 13, 42, 43, 28, 27, 44, 45, 46, 47, 48, 50, 51, 52, 53, 15, 68, 69, 70, 71, 72, 73, 74, 75, 76, 77, 78, 79, 80, 81, 82, 83, 84, 85, 86, 87, 88, 89] rfl (by decide +kernel)
set_option maxRecDepth 20000 in
theorem gX5_cause_X5_causeOfLate : GoodIn wsX5_cause (wsV RX5 165 RX5 yX5_causeOfLate wsX5_causeOfLate) := goodIn_app (goodIn_r _ [54, 55, 56, 4] rfl (by decide +kernel)) ggX5_cause_X5_causeOfLate
def dq_69 : List (Nat × Jvm.ClassFile.Instr × Nat) := [(0, .aload_n 0, 1), (1, .invokevirtual 129, 3), (4, .ifCond .eq 19, 3), (7, .aload_n 0, 1), (8, .iload_n 1, 1), (9, .invokevirtual 162, 3), (12, .ifCond .eq 11, 3), (15, .aload_n 0, 1), (16, .iload_n 1, 1), (17, .invokevirtual 165, 3), (20, .goto 4, 3), (23, .iconst (-1), 1), (24, .ireturn, 1)]
set_option maxRecDepth 20000 in
theorem da_69 : ∀ q ∈ dq_69, decode cX5_cause q.1 = .ok (q.2.1, q.2.2) := by decide +kernel
theorem dX5_cause_0 : decode cX5_cause 0 = .ok (.aload_n 0, 1) := da_69 (0, .aload_n 0, 1) (List.mem_of_getElem? (i := 0) rfl)
theorem dX5_cause_1 : decode cX5_cause 1 = .ok (.invokevirtual 129, 3) := da_69 (1, .invokevirtual 129, 3) (List.mem_of_getElem? (i := 1) rfl)
theorem dX5_cause_4 : decode cX5_cause 4 = .ok (.ifCond .eq 19, 3) := da_69 (4, .ifCond .eq 19, 3) (List.mem_of_getElem? (i := 2) rfl)
theorem dX5_cause_7 : decode cX5_cause 7 = .ok (.aload_n 0, 1) := da_69 (7, .aload_n 0, 1) (List.mem_of_getElem? (i := 3) rfl)
theorem dX5_cause_8 : decode cX5_cause 8 = .ok (.iload_n 1, 1) := da_69 (8, .iload_n 1, 1) (List.mem_of_getElem? (i := 4) rfl)
theorem dX5_cause_9 : decode cX5_cause 9 = .ok (.invokevirtual 162, 3) := da_69 (9, .invokevirtual 162, 3) (List.mem_of_getElem? (i := 5) rfl)
theorem dX5_cause_12 : decode cX5_cause 12 = .ok (.ifCond .eq 11, 3) := da_69 (12, .ifCond .eq 11, 3) (List.mem_of_getElem? (i := 6) rfl)
theorem dX5_cause_15 : decode cX5_cause 15 = .ok (.aload_n 0, 1) := da_69 (15, .aload_n 0, 1) (List.mem_of_getElem? (i := 7) rfl)
theorem dX5_cause_16 : decode cX5_cause 16 = .ok (.iload_n 1, 1) := da_69 (16, .iload_n 1, 1) (List.mem_of_getElem? (i := 8) rfl)
theorem dX5_cause_17 : decode cX5_cause 17 = .ok (.invokevirtual 165, 3) := da_69 (17, .invokevirtual 165, 3) (List.mem_of_getElem? (i := 9) rfl)
theorem dX5_cause_20 : decode cX5_cause 20 = .ok (.goto 4, 3) := da_69 (20, .goto 4, 3) (List.mem_of_getElem? (i := 10) rfl)
theorem dX5_cause_23 : decode cX5_cause 23 = .ok (.iconst (-1), 1) := da_69 (23, .iconst (-1), 1) (List.mem_of_getElem? (i := 11) rfl)
theorem dX5_cause_24 : decode cX5_cause 24 = .ok (.ireturn, 1) := da_69 (24, .ireturn, 1) (List.mem_of_getElem? (i := 12) rfl)
set_option maxRecDepth 20000 in
theorem ggX5_way_X5_knowSpread : GoodIn wsX5_way wsX5_knowSpread := goodIn_r _ [8, 9, 2, 10, 11, 12, 13, 14, 15, 16, 17, 18, 19, 20, 21, 22, 23, 24, 25, 26, 27, 28, 29, 30, 31, 32, 33, 34, 35, 36, 37, 38, 39, 40, 41, 42, 43, 44, 45, 76, 77, 78, 79, 80, 81, 82, 83, 84, 85, 86, 87, 88, 89, 90, 91, 92, 93, 94, 95, 96, 97] rfl (by decide +kernel)
set_option maxRecDepth 20000 in
theorem gX5_way_X5_knowSpread : GoodIn wsX5_way (wsV RX5 129 RX5 yX5_knowSpread wsX5_knowSpread) := goodIn_app (goodIn_r _ [4, 5, 6, 7] rfl (by decide +kernel)) ggX5_way_X5_knowSpread
set_option maxRecDepth 20000 in
theorem ggX5_way_X5_isLate : GoodIn wsX5_way wsX5_isLate := goodIn_r _ [49, 2, 50, 10, 51, 52, 53, 54, 15, 55, 17, 76, 77, 78, 79, 80, 81, 82, 83, 84, 85, 86, 87, 88, 89, 90, 91, 92, 93, 94, 95, 96, 97] rfl (by decide +kernel)
set_option maxRecDepth 20000 in
theorem gX5_way_X5_isLate : GoodIn wsX5_way (wsV RX5 162 RX5 yX5_isLate wsX5_isLate) := goodIn_app (goodIn_r _ [46, 47, 48, 7] rfl (by decide +kernel)) ggX5_way_X5_isLate
set_option maxRecDepth 20000 in
theorem ggX5_way_X5_isIn : GoodIn wsX5_way wsX5_isIn := goodIn_r _ [58] rfl (by decide +kernel)
set_option maxRecDepth 20000 in
theorem gX5_way_X5_isIn : GoodIn wsX5_way (va_wsS RX5 65 yX5_isIn wsX5_isIn) := goodIn_app (goodIn_r _ [56, 57, 7] rfl (by decide +kernel)) ggX5_way_X5_isIn
set_option maxRecDepth 20000 in
theorem ggX5_way_J7_fill_53178 : GoodIn wsX5_way wsJ7_fill_53178 := goodIn_r _ [62] rfl (by decide +kernel)
set_option maxRecDepth 20000 in
theorem gX5_way_J7_fill_53178 : GoodIn wsX5_way (va_wsS RX5 168 yJ7_fill_53178 wsJ7_fill_53178) := goodIn_app (goodIn_r _ [59, 60, 61] rfl (by decide +kernel)) ggX5_way_J7_fill_53178
set_option maxRecDepth 20000 in
theorem ggX5_way_X5_causeOfLate : GoodIn wsX5_way wsX5_causeOfLate := goodIn_r _ [66, 2, 67, 68, 3, 69, 70, 71, 7, 72, 10, 73, 51, 74, 75, 42, 43, 15, 44, 45, 30, 29, 46, 47, 48, 49, 50, 52, 53, 54, 55, 17, 76, 77, 78, 79, 80, 81, 82, 83, 84, 85, 86, 87, 88, 89, 90, 91, 92, 93, 94, 95, 96, 97] rfl (by decide +kernel)
set_option maxRecDepth 20000 in
theorem gX5_way_X5_causeOfLate : GoodIn wsX5_way (wsV RX5 165 RX5 yX5_causeOfLate wsX5_causeOfLate) := goodIn_app (goodIn_r _ [63, 64, 65, 7] rfl (by decide +kernel)) ggX5_way_X5_causeOfLate
def dq_70 : List (Nat × Jvm.ClassFile.Instr × Nat) := [(0, .aload_n 0, 1), (1, .invokevirtual 129, 3), (4, .ifCond .eq 21, 3), (7, .aload_n 0, 1), (8, .iload_n 1, 1), (9, .invokevirtual 162, 3), (12, .ifCond .eq 13, 3), (15, .iload_n 2, 1), (16, .iconst 0, 1), (17, .bipush 59, 2), (19, .invokestatic 65, 3), (22, .ifCond .ne 5, 3), (25, .iconst (-1), 1), (26, .ireturn, 1), (27, .aload_n 0, 1), (28, .getfield 52, 3), (31, .iconst 0, 1), (32, .invokestatic 168, 3), (35, .iload_n 1, 1), (36, .istore_n 3, 1), (37, .iconst 0, 1), (38, .istore 4, 2), (40, .iload 4, 2), (42, .iload_n 2, 1), (43, .if_icmp .ge 60, 3), (46, .aload_n 0, 1), (47, .getfield 52, 3), (50, .iload_n 3, 1), (51, .iconst 1, 1), (52, .iastore, 1), (53, .aload_n 0, 1), (54, .iload_n 3, 1), (55, .invokevirtual 165, 3), (58, .istore 5, 2), (60, .iload 5, 2), (62, .iconst (-1), 1), (63, .if_icmp .eq 21, 3), (66, .aload_n 0, 1), (67, .getfield 52, 3), (70, .aload_n 0, 1), (71, .getfield 10, 3), (74, .getfield 105, 3), (77, .iload 5, 2), (79, .iaload, 1), (80, .iaload, 1), (81, .ifCond .eq 5, 3), (84, .iconst (-1), 1), (85, .ireturn, 1), (86, .aload_n 0, 1), (87, .getfield 10, 3)]
set_option maxRecDepth 20000 in
theorem da_70 : ∀ q ∈ dq_70, decode cX5_way q.1 = .ok (q.2.1, q.2.2) := by decide +kernel
theorem dX5_way_0 : decode cX5_way 0 = .ok (.aload_n 0, 1) := da_70 (0, .aload_n 0, 1) (List.mem_of_getElem? (i := 0) rfl)
theorem dX5_way_1 : decode cX5_way 1 = .ok (.invokevirtual 129, 3) := da_70 (1, .invokevirtual 129, 3) (List.mem_of_getElem? (i := 1) rfl)
theorem dX5_way_4 : decode cX5_way 4 = .ok (.ifCond .eq 21, 3) := da_70 (4, .ifCond .eq 21, 3) (List.mem_of_getElem? (i := 2) rfl)
theorem dX5_way_7 : decode cX5_way 7 = .ok (.aload_n 0, 1) := da_70 (7, .aload_n 0, 1) (List.mem_of_getElem? (i := 3) rfl)
theorem dX5_way_8 : decode cX5_way 8 = .ok (.iload_n 1, 1) := da_70 (8, .iload_n 1, 1) (List.mem_of_getElem? (i := 4) rfl)
theorem dX5_way_9 : decode cX5_way 9 = .ok (.invokevirtual 162, 3) := da_70 (9, .invokevirtual 162, 3) (List.mem_of_getElem? (i := 5) rfl)
theorem dX5_way_12 : decode cX5_way 12 = .ok (.ifCond .eq 13, 3) := da_70 (12, .ifCond .eq 13, 3) (List.mem_of_getElem? (i := 6) rfl)
theorem dX5_way_15 : decode cX5_way 15 = .ok (.iload_n 2, 1) := da_70 (15, .iload_n 2, 1) (List.mem_of_getElem? (i := 7) rfl)
theorem dX5_way_16 : decode cX5_way 16 = .ok (.iconst 0, 1) := da_70 (16, .iconst 0, 1) (List.mem_of_getElem? (i := 8) rfl)
theorem dX5_way_17 : decode cX5_way 17 = .ok (.bipush 59, 2) := da_70 (17, .bipush 59, 2) (List.mem_of_getElem? (i := 9) rfl)
theorem dX5_way_19 : decode cX5_way 19 = .ok (.invokestatic 65, 3) := da_70 (19, .invokestatic 65, 3) (List.mem_of_getElem? (i := 10) rfl)
theorem dX5_way_22 : decode cX5_way 22 = .ok (.ifCond .ne 5, 3) := da_70 (22, .ifCond .ne 5, 3) (List.mem_of_getElem? (i := 11) rfl)
theorem dX5_way_25 : decode cX5_way 25 = .ok (.iconst (-1), 1) := da_70 (25, .iconst (-1), 1) (List.mem_of_getElem? (i := 12) rfl)
theorem dX5_way_26 : decode cX5_way 26 = .ok (.ireturn, 1) := da_70 (26, .ireturn, 1) (List.mem_of_getElem? (i := 13) rfl)
theorem dX5_way_27 : decode cX5_way 27 = .ok (.aload_n 0, 1) := da_70 (27, .aload_n 0, 1) (List.mem_of_getElem? (i := 14) rfl)
theorem dX5_way_28 : decode cX5_way 28 = .ok (.getfield 52, 3) := da_70 (28, .getfield 52, 3) (List.mem_of_getElem? (i := 15) rfl)
theorem dX5_way_31 : decode cX5_way 31 = .ok (.iconst 0, 1) := da_70 (31, .iconst 0, 1) (List.mem_of_getElem? (i := 16) rfl)
theorem dX5_way_32 : decode cX5_way 32 = .ok (.invokestatic 168, 3) := da_70 (32, .invokestatic 168, 3) (List.mem_of_getElem? (i := 17) rfl)
theorem dX5_way_35 : decode cX5_way 35 = .ok (.iload_n 1, 1) := da_70 (35, .iload_n 1, 1) (List.mem_of_getElem? (i := 18) rfl)
theorem dX5_way_36 : decode cX5_way 36 = .ok (.istore_n 3, 1) := da_70 (36, .istore_n 3, 1) (List.mem_of_getElem? (i := 19) rfl)
theorem dX5_way_37 : decode cX5_way 37 = .ok (.iconst 0, 1) := da_70 (37, .iconst 0, 1) (List.mem_of_getElem? (i := 20) rfl)
theorem dX5_way_38 : decode cX5_way 38 = .ok (.istore 4, 2) := da_70 (38, .istore 4, 2) (List.mem_of_getElem? (i := 21) rfl)
theorem dX5_way_40 : decode cX5_way 40 = .ok (.iload 4, 2) := da_70 (40, .iload 4, 2) (List.mem_of_getElem? (i := 22) rfl)
theorem dX5_way_42 : decode cX5_way 42 = .ok (.iload_n 2, 1) := da_70 (42, .iload_n 2, 1) (List.mem_of_getElem? (i := 23) rfl)
theorem dX5_way_43 : decode cX5_way 43 = .ok (.if_icmp .ge 60, 3) := da_70 (43, .if_icmp .ge 60, 3) (List.mem_of_getElem? (i := 24) rfl)
theorem dX5_way_46 : decode cX5_way 46 = .ok (.aload_n 0, 1) := da_70 (46, .aload_n 0, 1) (List.mem_of_getElem? (i := 25) rfl)
theorem dX5_way_47 : decode cX5_way 47 = .ok (.getfield 52, 3) := da_70 (47, .getfield 52, 3) (List.mem_of_getElem? (i := 26) rfl)
theorem dX5_way_50 : decode cX5_way 50 = .ok (.iload_n 3, 1) := da_70 (50, .iload_n 3, 1) (List.mem_of_getElem? (i := 27) rfl)
theorem dX5_way_51 : decode cX5_way 51 = .ok (.iconst 1, 1) := da_70 (51, .iconst 1, 1) (List.mem_of_getElem? (i := 28) rfl)
theorem dX5_way_52 : decode cX5_way 52 = .ok (.iastore, 1) := da_70 (52, .iastore, 1) (List.mem_of_getElem? (i := 29) rfl)
theorem dX5_way_53 : decode cX5_way 53 = .ok (.aload_n 0, 1) := da_70 (53, .aload_n 0, 1) (List.mem_of_getElem? (i := 30) rfl)
theorem dX5_way_54 : decode cX5_way 54 = .ok (.iload_n 3, 1) := da_70 (54, .iload_n 3, 1) (List.mem_of_getElem? (i := 31) rfl)
theorem dX5_way_55 : decode cX5_way 55 = .ok (.invokevirtual 165, 3) := da_70 (55, .invokevirtual 165, 3) (List.mem_of_getElem? (i := 32) rfl)
theorem dX5_way_58 : decode cX5_way 58 = .ok (.istore 5, 2) := da_70 (58, .istore 5, 2) (List.mem_of_getElem? (i := 33) rfl)
theorem dX5_way_60 : decode cX5_way 60 = .ok (.iload 5, 2) := da_70 (60, .iload 5, 2) (List.mem_of_getElem? (i := 34) rfl)
theorem dX5_way_62 : decode cX5_way 62 = .ok (.iconst (-1), 1) := da_70 (62, .iconst (-1), 1) (List.mem_of_getElem? (i := 35) rfl)
theorem dX5_way_63 : decode cX5_way 63 = .ok (.if_icmp .eq 21, 3) := da_70 (63, .if_icmp .eq 21, 3) (List.mem_of_getElem? (i := 36) rfl)
theorem dX5_way_66 : decode cX5_way 66 = .ok (.aload_n 0, 1) := da_70 (66, .aload_n 0, 1) (List.mem_of_getElem? (i := 37) rfl)
theorem dX5_way_67 : decode cX5_way 67 = .ok (.getfield 52, 3) := da_70 (67, .getfield 52, 3) (List.mem_of_getElem? (i := 38) rfl)
theorem dX5_way_70 : decode cX5_way 70 = .ok (.aload_n 0, 1) := da_70 (70, .aload_n 0, 1) (List.mem_of_getElem? (i := 39) rfl)
theorem dX5_way_71 : decode cX5_way 71 = .ok (.getfield 10, 3) := da_70 (71, .getfield 10, 3) (List.mem_of_getElem? (i := 40) rfl)
theorem dX5_way_74 : decode cX5_way 74 = .ok (.getfield 105, 3) := da_70 (74, .getfield 105, 3) (List.mem_of_getElem? (i := 41) rfl)
theorem dX5_way_77 : decode cX5_way 77 = .ok (.iload 5, 2) := da_70 (77, .iload 5, 2) (List.mem_of_getElem? (i := 42) rfl)
theorem dX5_way_79 : decode cX5_way 79 = .ok (.iaload, 1) := da_70 (79, .iaload, 1) (List.mem_of_getElem? (i := 43) rfl)
theorem dX5_way_80 : decode cX5_way 80 = .ok (.iaload, 1) := da_70 (80, .iaload, 1) (List.mem_of_getElem? (i := 44) rfl)
theorem dX5_way_81 : decode cX5_way 81 = .ok (.ifCond .eq 5, 3) := da_70 (81, .ifCond .eq 5, 3) (List.mem_of_getElem? (i := 45) rfl)
theorem dX5_way_84 : decode cX5_way 84 = .ok (.iconst (-1), 1) := da_70 (84, .iconst (-1), 1) (List.mem_of_getElem? (i := 46) rfl)
theorem dX5_way_85 : decode cX5_way 85 = .ok (.ireturn, 1) := da_70 (85, .ireturn, 1) (List.mem_of_getElem? (i := 47) rfl)
theorem dX5_way_86 : decode cX5_way 86 = .ok (.aload_n 0, 1) := da_70 (86, .aload_n 0, 1) (List.mem_of_getElem? (i := 48) rfl)
theorem dX5_way_87 : decode cX5_way 87 = .ok (.getfield 10, 3) := da_70 (87, .getfield 10, 3) (List.mem_of_getElem? (i := 49) rfl)
def dq_71 : List (Nat × Jvm.ClassFile.Instr × Nat) := [(90, .getfield 105, 3), (93, .iload 5, 2), (95, .iaload, 1), (96, .istore_n 3, 1), (97, .iinc 4 1, 3), (100, .goto (-60), 3), (103, .iload_n 3, 1), (104, .ireturn, 1)]
set_option maxRecDepth 20000 in
theorem da_71 : ∀ q ∈ dq_71, decode cX5_way q.1 = .ok (q.2.1, q.2.2) := by decide +kernel
theorem dX5_way_90 : decode cX5_way 90 = .ok (.getfield 105, 3) := da_71 (90, .getfield 105, 3) (List.mem_of_getElem? (i := 0) rfl)
theorem dX5_way_93 : decode cX5_way 93 = .ok (.iload 5, 2) := da_71 (93, .iload 5, 2) (List.mem_of_getElem? (i := 1) rfl)
theorem dX5_way_95 : decode cX5_way 95 = .ok (.iaload, 1) := da_71 (95, .iaload, 1) (List.mem_of_getElem? (i := 2) rfl)
theorem dX5_way_96 : decode cX5_way 96 = .ok (.istore_n 3, 1) := da_71 (96, .istore_n 3, 1) (List.mem_of_getElem? (i := 3) rfl)
theorem dX5_way_97 : decode cX5_way 97 = .ok (.iinc 4 1, 3) := da_71 (97, .iinc 4 1, 3) (List.mem_of_getElem? (i := 4) rfl)
theorem dX5_way_100 : decode cX5_way 100 = .ok (.goto (-60), 3) := da_71 (100, .goto (-60), 3) (List.mem_of_getElem? (i := 5) rfl)
theorem dX5_way_103 : decode cX5_way 103 = .ok (.iload_n 3, 1) := da_71 (103, .iload_n 3, 1) (List.mem_of_getElem? (i := 6) rfl)
theorem dX5_way_104 : decode cX5_way 104 = .ok (.ireturn, 1) := da_71 (104, .ireturn, 1) (List.mem_of_getElem? (i := 7) rfl)
set_option maxRecDepth 20000 in
theorem ggX5_ring_X5_knowSpread : GoodIn wsX5_ring wsX5_knowSpread := goodIn_r _ [9, 10, 11, 12, 13, 14, 15, 16, 17, 18, 19, 20, 21, 22, 23, 24, 25, 26, 27, 28, 29, 30, 31, 32, 33, 34, 35, 36, 37, 38, 39, 40, 41, 42, 43, 44, 45, 46, 47, 109, 110, 111, 112, 113, 114, 115, 116, 117, 118, 126, 127, 128, 129, 130, 131, 132, 133, 134, 135, 136, 137] rfl (by decide +kernel)
set_option maxRecDepth 20000 in
theorem gX5_ring_X5_knowSpread : GoodIn wsX5_ring (wsV RX5 129 RX5 yX5_knowSpread wsX5_knowSpread) := goodIn_app (goodIn_r _ [5, 6, 7, 8] rfl (by decide +kernel)) ggX5_ring_X5_knowSpread
set_option maxRecDepth 20000 in
theorem ggX5_ring_X2_find : GoodIn wsX5_ring wsX2_find := goodIn_r _ [52, 53, 54, 55, 56, 51, 57, 58, 59, 60, 61, 62, 39, 40, 17, 41, 42, 43, 44, 45, 46, 47, 32, 31, 63, 64, 65, 66, 67, 68, 69, 70, 71, 72, 73, 74, 75, 76, 77, 78, 79, 80, 81, 82, 83, 84, 85, 86, 87, 88, 89, 90, 91, 92, 93, 94, 95, 96, 97, 98, 99, 100, 101, 102, 103, 104, 105, 119, 120, 121, 122, 123, 124, 125, 126, 127, 128, 129, 130, 131, 132, 133, 134, 135, 136, 137] rfl (by decide +kernel)
set_option maxRecDepth 20000 in
theorem gX5_ring_X2_find : GoodIn wsX5_ring (wsV RX5 174 RX2 yX2_find wsX2_find) := goodIn_app (goodIn_r _ [48, 49, 50, 51] rfl (by decide +kernel)) ggX5_ring_X2_find
set_option maxRecDepth 20000 in
theorem ggX5_ring_X5_isIn : GoodIn wsX5_ring wsX5_isIn := goodIn_r _ [108] rfl (by decide +kernel)
set_option maxRecDepth 20000 in
theorem gX5_ring_X5_isIn : GoodIn wsX5_ring (va_wsS RX5 65 yX5_isIn wsX5_isIn) := goodIn_app (goodIn_r _ [106, 107, 8] rfl (by decide +kernel)) ggX5_ring_X5_isIn
def dq_72 : List (Nat × Jvm.ClassFile.Instr × Nat) := [(0, .aload_n 0, 1), (1, .invokevirtual 129, 3), (4, .ifCond .eq 5, 3), (7, .iconst (-1), 1), (8, .ireturn, 1), (9, .aload_n 0, 1), (10, .getfield 62, 3), (13, .ifCond .ne 15, 3), (16, .aload_n 0, 1), (17, .getfield 28, 3), (20, .invokevirtual 174, 3), (23, .aload_n 0, 1), (24, .iconst 1, 1), (25, .putfield 62, 3), (28, .iload_n 1, 1), (29, .iconst 0, 1), (30, .aload_n 0, 1), (31, .getfield 28, 3), (34, .getfield 177, 3), (37, .iconst 1, 1), (38, .isub, 1), (39, .invokestatic 65, 3), (42, .ifCond .eq 15, 3), (45, .aload_n 0, 1), (46, .getfield 28, 3), (49, .getfield 180, 3), (52, .iload_n 1, 1), (53, .iaload, 1), (54, .goto 4, 3), (57, .iconst (-1), 1), (58, .ireturn, 1)]
set_option maxRecDepth 20000 in
theorem da_72 : ∀ q ∈ dq_72, decode cX5_ring q.1 = .ok (q.2.1, q.2.2) := by decide +kernel
theorem dX5_ring_0 : decode cX5_ring 0 = .ok (.aload_n 0, 1) := da_72 (0, .aload_n 0, 1) (List.mem_of_getElem? (i := 0) rfl)
theorem dX5_ring_1 : decode cX5_ring 1 = .ok (.invokevirtual 129, 3) := da_72 (1, .invokevirtual 129, 3) (List.mem_of_getElem? (i := 1) rfl)
theorem dX5_ring_4 : decode cX5_ring 4 = .ok (.ifCond .eq 5, 3) := da_72 (4, .ifCond .eq 5, 3) (List.mem_of_getElem? (i := 2) rfl)
theorem dX5_ring_7 : decode cX5_ring 7 = .ok (.iconst (-1), 1) := da_72 (7, .iconst (-1), 1) (List.mem_of_getElem? (i := 3) rfl)
theorem dX5_ring_8 : decode cX5_ring 8 = .ok (.ireturn, 1) := da_72 (8, .ireturn, 1) (List.mem_of_getElem? (i := 4) rfl)
theorem dX5_ring_9 : decode cX5_ring 9 = .ok (.aload_n 0, 1) := da_72 (9, .aload_n 0, 1) (List.mem_of_getElem? (i := 5) rfl)
theorem dX5_ring_10 : decode cX5_ring 10 = .ok (.getfield 62, 3) := da_72 (10, .getfield 62, 3) (List.mem_of_getElem? (i := 6) rfl)
theorem dX5_ring_13 : decode cX5_ring 13 = .ok (.ifCond .ne 15, 3) := da_72 (13, .ifCond .ne 15, 3) (List.mem_of_getElem? (i := 7) rfl)
theorem dX5_ring_16 : decode cX5_ring 16 = .ok (.aload_n 0, 1) := da_72 (16, .aload_n 0, 1) (List.mem_of_getElem? (i := 8) rfl)
theorem dX5_ring_17 : decode cX5_ring 17 = .ok (.getfield 28, 3) := da_72 (17, .getfield 28, 3) (List.mem_of_getElem? (i := 9) rfl)
theorem dX5_ring_20 : decode cX5_ring 20 = .ok (.invokevirtual 174, 3) := da_72 (20, .invokevirtual 174, 3) (List.mem_of_getElem? (i := 10) rfl)
theorem dX5_ring_23 : decode cX5_ring 23 = .ok (.aload_n 0, 1) := da_72 (23, .aload_n 0, 1) (List.mem_of_getElem? (i := 11) rfl)
theorem dX5_ring_24 : decode cX5_ring 24 = .ok (.iconst 1, 1) := da_72 (24, .iconst 1, 1) (List.mem_of_getElem? (i := 12) rfl)
theorem dX5_ring_25 : decode cX5_ring 25 = .ok (.putfield 62, 3) := da_72 (25, .putfield 62, 3) (List.mem_of_getElem? (i := 13) rfl)
theorem dX5_ring_28 : decode cX5_ring 28 = .ok (.iload_n 1, 1) := da_72 (28, .iload_n 1, 1) (List.mem_of_getElem? (i := 14) rfl)
theorem dX5_ring_29 : decode cX5_ring 29 = .ok (.iconst 0, 1) := da_72 (29, .iconst 0, 1) (List.mem_of_getElem? (i := 15) rfl)
theorem dX5_ring_30 : decode cX5_ring 30 = .ok (.aload_n 0, 1) := da_72 (30, .aload_n 0, 1) (List.mem_of_getElem? (i := 16) rfl)
theorem dX5_ring_31 : decode cX5_ring 31 = .ok (.getfield 28, 3) := da_72 (31, .getfield 28, 3) (List.mem_of_getElem? (i := 17) rfl)
theorem dX5_ring_34 : decode cX5_ring 34 = .ok (.getfield 177, 3) := da_72 (34, .getfield 177, 3) (List.mem_of_getElem? (i := 18) rfl)
theorem dX5_ring_37 : decode cX5_ring 37 = .ok (.iconst 1, 1) := da_72 (37, .iconst 1, 1) (List.mem_of_getElem? (i := 19) rfl)
theorem dX5_ring_38 : decode cX5_ring 38 = .ok (.isub, 1) := da_72 (38, .isub, 1) (List.mem_of_getElem? (i := 20) rfl)
theorem dX5_ring_39 : decode cX5_ring 39 = .ok (.invokestatic 65, 3) := da_72 (39, .invokestatic 65, 3) (List.mem_of_getElem? (i := 21) rfl)
theorem dX5_ring_42 : decode cX5_ring 42 = .ok (.ifCond .eq 15, 3) := da_72 (42, .ifCond .eq 15, 3) (List.mem_of_getElem? (i := 22) rfl)
theorem dX5_ring_45 : decode cX5_ring 45 = .ok (.aload_n 0, 1) := da_72 (45, .aload_n 0, 1) (List.mem_of_getElem? (i := 23) rfl)
theorem dX5_ring_46 : decode cX5_ring 46 = .ok (.getfield 28, 3) := da_72 (46, .getfield 28, 3) (List.mem_of_getElem? (i := 24) rfl)
theorem dX5_ring_49 : decode cX5_ring 49 = .ok (.getfield 180, 3) := da_72 (49, .getfield 180, 3) (List.mem_of_getElem? (i := 25) rfl)
theorem dX5_ring_52 : decode cX5_ring 52 = .ok (.iload_n 1, 1) := da_72 (52, .iload_n 1, 1) (List.mem_of_getElem? (i := 26) rfl)
theorem dX5_ring_53 : decode cX5_ring 53 = .ok (.iaload, 1) := da_72 (53, .iaload, 1) (List.mem_of_getElem? (i := 27) rfl)
theorem dX5_ring_54 : decode cX5_ring 54 = .ok (.goto 4, 3) := da_72 (54, .goto 4, 3) (List.mem_of_getElem? (i := 28) rfl)
theorem dX5_ring_57 : decode cX5_ring 57 = .ok (.iconst (-1), 1) := da_72 (57, .iconst (-1), 1) (List.mem_of_getElem? (i := 29) rfl)
theorem dX5_ring_58 : decode cX5_ring 58 = .ok (.ireturn, 1) := da_72 (58, .ireturn, 1) (List.mem_of_getElem? (i := 30) rfl)
set_option maxRecDepth 20000 in
theorem ggX5_told_X4_hasGroup : GoodIn wsX5_told wsX4_hasGroup := goodIn_r _ [8, 9, 90, 91, 92, 93, 94, 95, 96, 97] rfl (by decide +kernel)
set_option maxRecDepth 20000 in
theorem gX5_told_X4_hasGroup : GoodIn wsX5_told (wsV RX5 183 RX4 yX4_hasGroup wsX4_hasGroup) := goodIn_app (goodIn_r _ [4, 5, 6, 7] rfl (by decide +kernel)) ggX5_told_X4_hasGroup
set_option maxRecDepth 20000 in
theorem ggX5_told_X5_knowSpread : GoodIn wsX5_told wsX5_knowSpread := goodIn_r _ [14, 15, 16, 2, 17, 18, 19, 20, 21, 22, 23, 24, 25, 26, 27, 28, 29, 30, 31, 32, 33, 34, 35, 36, 37, 38, 39, 40, 41, 42, 43, 44, 45, 46, 47, 48, 49, 50, 51, 80, 81, 82, 83, 84, 85, 86, 87, 88, 89, 98, 99, 100, 101, 102, 103, 104, 105, 106, 107, 108, 109] rfl (by decide +kernel)
set_option maxRecDepth 20000 in
theorem gX5_told_X5_knowSpread : GoodIn wsX5_told (wsV RX5 129 RX5 yX5_knowSpread wsX5_knowSpread) := goodIn_app (goodIn_r _ [10, 11, 12, 13] rfl (by decide +kernel)) ggX5_told_X5_knowSpread
set_option maxRecDepth 20000 in
theorem ggX5_told_X4_lateness : GoodIn wsX5_told wsX4_lateness := goodIn_r _ [55, 56, 57, 58, 59, 60, 61, 62, 7, 63, 64, 65, 66, 67, 68, 69, 70, 71, 72, 73, 74, 75, 90, 91, 92, 93, 94, 95, 96, 97, 98, 99, 100, 101, 102, 103, 104, 105, 106, 107, 108, 109] rfl (by decide +kernel)
set_option maxRecDepth 20000 in
theorem gX5_told_X4_lateness : GoodIn wsX5_told (wsV RX5 186 RX4 yX4_lateness wsX4_lateness) := goodIn_app (goodIn_r _ [52, 53, 54, 7] rfl (by decide +kernel)) ggX5_told_X4_lateness
set_option maxRecDepth 20000 in
theorem ggX5_told_X4_isStranded : GoodIn wsX5_told wsX4_isStranded := goodIn_r _ [63, 58, 64, 65, 66, 67, 68, 69, 70, 7, 71, 72, 73, 74, 75, 90, 91, 92, 93, 94, 95, 96, 97, 98, 99, 100, 101, 102, 103, 104, 105, 106, 107, 108, 109] rfl (by decide +kernel)
set_option maxRecDepth 20000 in
theorem gX5_told_X4_isStranded : GoodIn wsX5_told (wsV RX5 190 RX4 yX4_isStranded wsX4_isStranded) := goodIn_app (goodIn_r _ [76, 61, 62, 7] rfl (by decide +kernel)) ggX5_told_X4_isStranded
set_option maxRecDepth 20000 in
theorem ggX5_told_X5_asNumber : GoodIn wsX5_told wsX5_asNumber := goodIn_r _ [79] rfl (by decide +kernel)
set_option maxRecDepth 20000 in
theorem gX5_told_X5_asNumber : GoodIn wsX5_told (va_wsS RX5 133 yX5_asNumber wsX5_asNumber) := goodIn_app (goodIn_r _ [77, 78, 13] rfl (by decide +kernel)) ggX5_told_X5_asNumber
def dq_73 : List (Nat × Jvm.ClassFile.Instr × Nat) := [(0, .aload_n 0, 1), (1, .getfield 21, 3), (4, .iload_n 1, 1), (5, .invokevirtual 183, 3), (8, .ifCond .ne 5, 3), (11, .iconst (-1), 1), (12, .ireturn, 1), (13, .iload_n 2, 1), (14, .tableswitch 87 0 2 #[26, 50, 77], 26), (40, .aload_n 0, 1), (41, .invokevirtual 129, 3), (44, .ifCond .eq 18, 3), (47, .aload_n 0, 1), (48, .getfield 21, 3), (51, .iload_n 1, 1), (52, .aload_n 0, 1), (53, .getfield 48, 3), (56, .invokevirtual 186, 3), (59, .goto 4, 3), (62, .iconst (-1), 1), (63, .ireturn, 1), (64, .aload_n 0, 1), (65, .invokevirtual 129, 3), (68, .ifCond .eq 21, 3), (71, .aload_n 0, 1), (72, .getfield 21, 3), (75, .iload_n 1, 1), (76, .aload_n 0, 1), (77, .getfield 48, 3), (80, .invokevirtual 190, 3), (83, .invokestatic 133, 3), (86, .goto 4, 3), (89, .iconst (-1), 1), (90, .ireturn, 1), (91, .aload_n 0, 1), (92, .getfield 21, 3), (95, .getfield 194, 3), (98, .iload_n 1, 1), (99, .iaload, 1), (100, .ireturn, 1), (101, .iconst (-1), 1), (102, .ireturn, 1)]
set_option maxRecDepth 20000 in
theorem da_73 : ∀ q ∈ dq_73, decode cX5_told q.1 = .ok (q.2.1, q.2.2) := by decide +kernel
theorem dX5_told_0 : decode cX5_told 0 = .ok (.aload_n 0, 1) := da_73 (0, .aload_n 0, 1) (List.mem_of_getElem? (i := 0) rfl)
theorem dX5_told_1 : decode cX5_told 1 = .ok (.getfield 21, 3) := da_73 (1, .getfield 21, 3) (List.mem_of_getElem? (i := 1) rfl)
theorem dX5_told_4 : decode cX5_told 4 = .ok (.iload_n 1, 1) := da_73 (4, .iload_n 1, 1) (List.mem_of_getElem? (i := 2) rfl)
theorem dX5_told_5 : decode cX5_told 5 = .ok (.invokevirtual 183, 3) := da_73 (5, .invokevirtual 183, 3) (List.mem_of_getElem? (i := 3) rfl)
theorem dX5_told_8 : decode cX5_told 8 = .ok (.ifCond .ne 5, 3) := da_73 (8, .ifCond .ne 5, 3) (List.mem_of_getElem? (i := 4) rfl)
theorem dX5_told_11 : decode cX5_told 11 = .ok (.iconst (-1), 1) := da_73 (11, .iconst (-1), 1) (List.mem_of_getElem? (i := 5) rfl)
theorem dX5_told_12 : decode cX5_told 12 = .ok (.ireturn, 1) := da_73 (12, .ireturn, 1) (List.mem_of_getElem? (i := 6) rfl)
theorem dX5_told_13 : decode cX5_told 13 = .ok (.iload_n 2, 1) := da_73 (13, .iload_n 2, 1) (List.mem_of_getElem? (i := 7) rfl)
theorem dX5_told_14 : decode cX5_told 14 = .ok (.tableswitch 87 0 2 #[26, 50, 77], 26) := da_73 (14, .tableswitch 87 0 2 #[26, 50, 77], 26) (List.mem_of_getElem? (i := 8) rfl)
theorem dX5_told_40 : decode cX5_told 40 = .ok (.aload_n 0, 1) := da_73 (40, .aload_n 0, 1) (List.mem_of_getElem? (i := 9) rfl)
theorem dX5_told_41 : decode cX5_told 41 = .ok (.invokevirtual 129, 3) := da_73 (41, .invokevirtual 129, 3) (List.mem_of_getElem? (i := 10) rfl)
theorem dX5_told_44 : decode cX5_told 44 = .ok (.ifCond .eq 18, 3) := da_73 (44, .ifCond .eq 18, 3) (List.mem_of_getElem? (i := 11) rfl)
theorem dX5_told_47 : decode cX5_told 47 = .ok (.aload_n 0, 1) := da_73 (47, .aload_n 0, 1) (List.mem_of_getElem? (i := 12) rfl)
theorem dX5_told_48 : decode cX5_told 48 = .ok (.getfield 21, 3) := da_73 (48, .getfield 21, 3) (List.mem_of_getElem? (i := 13) rfl)
theorem dX5_told_51 : decode cX5_told 51 = .ok (.iload_n 1, 1) := da_73 (51, .iload_n 1, 1) (List.mem_of_getElem? (i := 14) rfl)
theorem dX5_told_52 : decode cX5_told 52 = .ok (.aload_n 0, 1) := da_73 (52, .aload_n 0, 1) (List.mem_of_getElem? (i := 15) rfl)
theorem dX5_told_53 : decode cX5_told 53 = .ok (.getfield 48, 3) := da_73 (53, .getfield 48, 3) (List.mem_of_getElem? (i := 16) rfl)
theorem dX5_told_56 : decode cX5_told 56 = .ok (.invokevirtual 186, 3) := da_73 (56, .invokevirtual 186, 3) (List.mem_of_getElem? (i := 17) rfl)
theorem dX5_told_59 : decode cX5_told 59 = .ok (.goto 4, 3) := da_73 (59, .goto 4, 3) (List.mem_of_getElem? (i := 18) rfl)
theorem dX5_told_62 : decode cX5_told 62 = .ok (.iconst (-1), 1) := da_73 (62, .iconst (-1), 1) (List.mem_of_getElem? (i := 19) rfl)
theorem dX5_told_63 : decode cX5_told 63 = .ok (.ireturn, 1) := da_73 (63, .ireturn, 1) (List.mem_of_getElem? (i := 20) rfl)
theorem dX5_told_64 : decode cX5_told 64 = .ok (.aload_n 0, 1) := da_73 (64, .aload_n 0, 1) (List.mem_of_getElem? (i := 21) rfl)
theorem dX5_told_65 : decode cX5_told 65 = .ok (.invokevirtual 129, 3) := da_73 (65, .invokevirtual 129, 3) (List.mem_of_getElem? (i := 22) rfl)
theorem dX5_told_68 : decode cX5_told 68 = .ok (.ifCond .eq 21, 3) := da_73 (68, .ifCond .eq 21, 3) (List.mem_of_getElem? (i := 23) rfl)
theorem dX5_told_71 : decode cX5_told 71 = .ok (.aload_n 0, 1) := da_73 (71, .aload_n 0, 1) (List.mem_of_getElem? (i := 24) rfl)
theorem dX5_told_72 : decode cX5_told 72 = .ok (.getfield 21, 3) := da_73 (72, .getfield 21, 3) (List.mem_of_getElem? (i := 25) rfl)
theorem dX5_told_75 : decode cX5_told 75 = .ok (.iload_n 1, 1) := da_73 (75, .iload_n 1, 1) (List.mem_of_getElem? (i := 26) rfl)
theorem dX5_told_76 : decode cX5_told 76 = .ok (.aload_n 0, 1) := da_73 (76, .aload_n 0, 1) (List.mem_of_getElem? (i := 27) rfl)
theorem dX5_told_77 : decode cX5_told 77 = .ok (.getfield 48, 3) := da_73 (77, .getfield 48, 3) (List.mem_of_getElem? (i := 28) rfl)
theorem dX5_told_80 : decode cX5_told 80 = .ok (.invokevirtual 190, 3) := da_73 (80, .invokevirtual 190, 3) (List.mem_of_getElem? (i := 29) rfl)
theorem dX5_told_83 : decode cX5_told 83 = .ok (.invokestatic 133, 3) := da_73 (83, .invokestatic 133, 3) (List.mem_of_getElem? (i := 30) rfl)
theorem dX5_told_86 : decode cX5_told 86 = .ok (.goto 4, 3) := da_73 (86, .goto 4, 3) (List.mem_of_getElem? (i := 31) rfl)
theorem dX5_told_89 : decode cX5_told 89 = .ok (.iconst (-1), 1) := da_73 (89, .iconst (-1), 1) (List.mem_of_getElem? (i := 32) rfl)
theorem dX5_told_90 : decode cX5_told 90 = .ok (.ireturn, 1) := da_73 (90, .ireturn, 1) (List.mem_of_getElem? (i := 33) rfl)
theorem dX5_told_91 : decode cX5_told 91 = .ok (.aload_n 0, 1) := da_73 (91, .aload_n 0, 1) (List.mem_of_getElem? (i := 34) rfl)
theorem dX5_told_92 : decode cX5_told 92 = .ok (.getfield 21, 3) := da_73 (92, .getfield 21, 3) (List.mem_of_getElem? (i := 35) rfl)
theorem dX5_told_95 : decode cX5_told 95 = .ok (.getfield 194, 3) := da_73 (95, .getfield 194, 3) (List.mem_of_getElem? (i := 36) rfl)
theorem dX5_told_98 : decode cX5_told 98 = .ok (.iload_n 1, 1) := da_73 (98, .iload_n 1, 1) (List.mem_of_getElem? (i := 37) rfl)
theorem dX5_told_99 : decode cX5_told 99 = .ok (.iaload, 1) := da_73 (99, .iaload, 1) (List.mem_of_getElem? (i := 38) rfl)
theorem dX5_told_100 : decode cX5_told 100 = .ok (.ireturn, 1) := da_73 (100, .ireturn, 1) (List.mem_of_getElem? (i := 39) rfl)
theorem dX5_told_101 : decode cX5_told 101 = .ok (.iconst (-1), 1) := da_73 (101, .iconst (-1), 1) (List.mem_of_getElem? (i := 40) rfl)
theorem dX5_told_102 : decode cX5_told 102 = .ok (.ireturn, 1) := da_73 (102, .ireturn, 1) (List.mem_of_getElem? (i := 41) rfl)
set_option maxRecDepth 20000 in
theorem ggX5_cost_X5_knowSpread : GoodIn wsX5_cost wsX5_knowSpread := goodIn_r _ [8, 9, 10, 2, 11, 12, 13, 14, 15, 16, 17, 18, 19, 20, 21, 22, 23, 24, 25, 26, 27, 28, 29, 30, 31, 32, 33, 34, 35, 36, 37, 38, 39, 40, 41, 42, 43, 44, 45, 77, 78, 79, 80, 81, 82, 83, 84, 85, 86, 87, 88, 89, 90, 91, 92, 93, 94, 95, 96, 97, 98] rfl (by decide +kernel)
set_option maxRecDepth 20000 in
theorem gX5_cost_X5_knowSpread : GoodIn wsX5_cost (wsV RX5 129 RX5 yX5_knowSpread wsX5_knowSpread) := goodIn_app (goodIn_r _ [4, 5, 6, 7] rfl (by decide +kernel)) ggX5_cost_X5_knowSpread
set_option maxRecDepth 20000 in
theorem ggX5_cost_X4_sum : GoodIn wsX5_cost wsX4_sum := goodIn_r _ [50, 51, 52, 53, 54, 55, 49, 56, 57, 58, 59, 60, 61, 62, 63, 64, 65, 66, 67, 68, 69, 70, 71, 72, 73, 74, 75, 76, 99, 100, 101, 102, 103, 104, 105, 106, 87, 88, 89, 90, 91, 92, 93, 94, 95, 96, 97, 98] rfl (by decide +kernel)
set_option maxRecDepth 20000 in
theorem gX5_cost_X4_sum : GoodIn wsX5_cost (wsV RX5 197 RX4 yX4_sum wsX4_sum) := goodIn_app (goodIn_r _ [46, 47, 48, 49] rfl (by decide +kernel)) ggX5_cost_X4_sum
def dq_74 : List (Nat × Jvm.ClassFile.Instr × Nat) := [(0, .aload_n 0, 1), (1, .invokevirtual 129, 3), (4, .ifCond .eq 17, 3), (7, .aload_n 0, 1), (8, .getfield 21, 3), (11, .aload_n 0, 1), (12, .getfield 48, 3), (15, .invokevirtual 197, 3), (18, .goto 6, 3), (21, .ldc2_w 201, 3), (24, .lreturn, 1)]
set_option maxRecDepth 20000 in
theorem da_74 : ∀ q ∈ dq_74, decode cX5_cost q.1 = .ok (q.2.1, q.2.2) := by decide +kernel
theorem dX5_cost_0 : decode cX5_cost 0 = .ok (.aload_n 0, 1) := da_74 (0, .aload_n 0, 1) (List.mem_of_getElem? (i := 0) rfl)
theorem dX5_cost_1 : decode cX5_cost 1 = .ok (.invokevirtual 129, 3) := da_74 (1, .invokevirtual 129, 3) (List.mem_of_getElem? (i := 1) rfl)
theorem dX5_cost_4 : decode cX5_cost 4 = .ok (.ifCond .eq 17, 3) := da_74 (4, .ifCond .eq 17, 3) (List.mem_of_getElem? (i := 2) rfl)
theorem dX5_cost_7 : decode cX5_cost 7 = .ok (.aload_n 0, 1) := da_74 (7, .aload_n 0, 1) (List.mem_of_getElem? (i := 3) rfl)
theorem dX5_cost_8 : decode cX5_cost 8 = .ok (.getfield 21, 3) := da_74 (8, .getfield 21, 3) (List.mem_of_getElem? (i := 4) rfl)
theorem dX5_cost_11 : decode cX5_cost 11 = .ok (.aload_n 0, 1) := da_74 (11, .aload_n 0, 1) (List.mem_of_getElem? (i := 5) rfl)
theorem dX5_cost_12 : decode cX5_cost 12 = .ok (.getfield 48, 3) := da_74 (12, .getfield 48, 3) (List.mem_of_getElem? (i := 6) rfl)
theorem dX5_cost_15 : decode cX5_cost 15 = .ok (.invokevirtual 197, 3) := da_74 (15, .invokevirtual 197, 3) (List.mem_of_getElem? (i := 7) rfl)
theorem dX5_cost_18 : decode cX5_cost 18 = .ok (.goto 6, 3) := da_74 (18, .goto 6, 3) (List.mem_of_getElem? (i := 8) rfl)
theorem dX5_cost_21 : decode cX5_cost 21 = .ok (.ldc2_w 201, 3) := da_74 (21, .ldc2_w 201, 3) (List.mem_of_getElem? (i := 9) rfl)
theorem dX5_cost_24 : decode cX5_cost 24 = .ok (.lreturn, 1) := da_74 (24, .lreturn, 1) (List.mem_of_getElem? (i := 10) rfl)
set_option maxRecDepth 20000 in
theorem ggX5_choose_X0_make : GoodIn wsX5_choose wsX0_make := goodIn_r _ [6, 7, 8, 9, 10, 11, 12, 13, 14, 15, 16, 17, 18, 5, 19, 20, 21, 22, 23, 24, 25, 26, 27, 28, 29, 30, 31, 32, 33, 34, 35, 36, 37, 38, 39, 40, 41, 42, 43, 44, 45, 46, 47, 48, 49, 50, 51, 52, 53, 54, 55, 56, 57, 58, 59, 60, 61, 62, 63, 64, 65, 66, 67, 68, 69, 70, 71, 72, 73, 74, 75, 76, 77, 78, 79, 80, 81, 82, 83, 84, 85, 86, 87, 88, 89, 90, 91, 92, 93, 94, 95, 96, 97, 98, 99, 100, 101, 102, 120, 121, 122, 123, 124, 125, 126, 127, 128, 129, 130, 131, 132, 133, 134, 135, 136, 137, 138, 139, 140, 141, 142, 143, 144, 145, 146, 147, 148] rfl (by decide +kernel)
set_option maxRecDepth 20000 in
theorem gX5_choose_X0_make : GoodIn wsX5_choose (wsV RX5 203 RX0 yX0_make wsX0_make) := goodIn_app (goodIn_r _ [2, 3, 4, 5] rfl (by decide +kernel)) ggX5_choose_X0_make
