theorem dX7_isCase_0 : decode cX7_isCase 0 = .ok (.iload_n 1, 1) := by decide +kernel
theorem dX7_isCase_1 : decode cX7_isCase 1 = .ok (.ifCond .lt 18, 3) := by decide +kernel
theorem dX7_isCase_4 : decode cX7_isCase 4 = .ok (.iload_n 1, 1) := by decide +kernel
theorem dX7_isCase_5 : decode cX7_isCase 5 = .ok (.aload_n 0, 1) := by decide +kernel
theorem dX7_isCase_6 : decode cX7_isCase 6 = .ok (.getfield 12, 3) := by decide +kernel
theorem dX7_isCase_9 : decode cX7_isCase 9 = .ok (.getfield 94, 3) := by decide +kernel
theorem dX7_isCase_12 : decode cX7_isCase 12 = .ok (.if_icmp .ge 7, 3) := by decide +kernel
theorem dX7_isCase_19 : decode cX7_isCase 19 = .ok (.iconst 0, 1) := by decide +kernel
theorem dX7_isCase_20 : decode cX7_isCase 20 = .ok (.ireturn, 1) := by decide +kernel
theorem dX7_isMark_0 : decode cX7_isMark 0 = .ok (.iload_n 0, 1) := by decide +kernel
theorem dX7_isMark_1 : decode cX7_isMark 1 = .ok (.ifCond .lt 13, 3) := by decide +kernel
theorem dX7_isMark_4 : decode cX7_isMark 4 = .ok (.iload_n 0, 1) := by decide +kernel
theorem dX7_isMark_5 : decode cX7_isMark 5 = .ok (.bipush 8, 2) := by decide +kernel
theorem dX7_isMark_7 : decode cX7_isMark 7 = .ok (.if_icmp .ge 7, 3) := by decide +kernel
theorem dX7_isMark_10 : decode cX7_isMark 10 = .ok (.iconst 1, 1) := by decide +kernel
theorem dX7_isMark_11 : decode cX7_isMark 11 = .ok (.goto 4, 3) := by decide +kernel
theorem dX7_isMark_14 : decode cX7_isMark 14 = .ok (.iconst 0, 1) := by decide +kernel
theorem dX7_isMark_15 : decode cX7_isMark 15 = .ok (.ireturn, 1) := by decide +kernel
theorem dX7_isClass_0 : decode cX7_isClass 0 = .ok (.iload_n 0, 1) := by decide +kernel
theorem dX7_isClass_1 : decode cX7_isClass 1 = .ok (.ifCond .lt 12, 3) := by decide +kernel
theorem dX7_isClass_4 : decode cX7_isClass 4 = .ok (.iload_n 0, 1) := by decide +kernel
theorem dX7_isClass_5 : decode cX7_isClass 5 = .ok (.iconst 4, 1) := by decide +kernel
theorem dX7_isClass_6 : decode cX7_isClass 6 = .ok (.if_icmp .ge 7, 3) := by decide +kernel
theorem dX7_isClass_9 : decode cX7_isClass 9 = .ok (.iconst 1, 1) := by decide +kernel
theorem dX7_isClass_10 : decode cX7_isClass 10 = .ok (.goto 4, 3) := by decide +kernel
theorem dX7_isClass_13 : decode cX7_isClass 13 = .ok (.iconst 0, 1) := by decide +kernel
theorem dX7_isClass_14 : decode cX7_isClass 14 = .ok (.ireturn, 1) := by decide +kernel
theorem dX7_canGrow_0 : decode cX7_canGrow 0 = .ok (.iload_n 0, 1) := by decide +kernel
theorem dX7_canGrow_1 : decode cX7_canGrow 1 = .ok (.ifCond .lt 24, 3) := by decide +kernel
theorem dX7_canGrow_4 : decode cX7_canGrow 4 = .ok (.iload_n 0, 1) := by decide +kernel
theorem dX7_canGrow_5 : decode cX7_canGrow 5 = .ok (.bipush 8, 2) := by decide +kernel
theorem dX7_canGrow_7 : decode cX7_canGrow 7 = .ok (.if_icmp .gt 18, 3) := by decide +kernel
theorem dX7_canGrow_10 : decode cX7_canGrow 10 = .ok (.iload_n 1, 1) := by decide +kernel
theorem dX7_canGrow_11 : decode cX7_canGrow 11 = .ok (.iconst 1, 1) := by decide +kernel
theorem dX7_canGrow_12 : decode cX7_canGrow 12 = .ok (.if_icmp .lt 13, 3) := by decide +kernel
theorem dX7_canGrow_15 : decode cX7_canGrow 15 = .ok (.iload_n 1, 1) := by decide +kernel
theorem dX7_canGrow_16 : decode cX7_canGrow 16 = .ok (.bipush 100, 2) := by decide +kernel
theorem dX7_canGrow_18 : decode cX7_canGrow 18 = .ok (.if_icmp .gt 7, 3) := by decide +kernel
theorem dX7_canGrow_21 : decode cX7_canGrow 21 = .ok (.iconst 1, 1) := by decide +kernel
theorem dX7_canGrow_22 : decode cX7_canGrow 22 = .ok (.goto 4, 3) := by decide +kernel
theorem dX7_canGrow_25 : decode cX7_canGrow 25 = .ok (.iconst 0, 1) := by decide +kernel
theorem dX7_canGrow_26 : decode cX7_canGrow 26 = .ok (.ireturn, 1) := by decide +kernel
theorem dX7_treeAt_0 : decode cX7_treeAt 0 = .ok (.iload_n 1, 1) := by decide +kernel
theorem dX7_treeAt_1 : decode cX7_treeAt 1 = .ok (.ifCond .lt 20, 3) := by decide +kernel
theorem dX7_treeAt_4 : decode cX7_treeAt 4 = .ok (.iload_n 1, 1) := by decide +kernel
theorem dX7_treeAt_5 : decode cX7_treeAt 5 = .ok (.aload_n 0, 1) := by decide +kernel
theorem dX7_treeAt_6 : decode cX7_treeAt 6 = .ok (.getfield 76, 3) := by decide +kernel
theorem dX7_treeAt_9 : decode cX7_treeAt 9 = .ok (.if_icmp .ge 12, 3) := by decide +kernel
theorem dX7_treeAt_21 : decode cX7_treeAt 21 = .ok (.aconst_null, 1) := by decide +kernel
theorem dX7_treeAt_22 : decode cX7_treeAt 22 = .ok (.areturn, 1) := by decide +kernel
theorem dX7_firstGreatest_0 : decode cX7_firstGreatest 0 = .ok (.iconst 0, 1) := by decide +kernel
theorem dX7_firstGreatest_1 : decode cX7_firstGreatest 1 = .ok (.istore_n 2, 1) := by decide +kernel
theorem dX7_firstGreatest_2 : decode cX7_firstGreatest 2 = .ok (.iconst 1, 1) := by decide +kernel
theorem dX7_firstGreatest_3 : decode cX7_firstGreatest 3 = .ok (.istore_n 3, 1) := by decide +kernel
theorem dX7_firstGreatest_4 : decode cX7_firstGreatest 4 = .ok (.iload_n 3, 1) := by decide +kernel
theorem dX7_firstGreatest_5 : decode cX7_firstGreatest 5 = .ok (.iconst 4, 1) := by decide +kernel
theorem dX7_firstGreatest_6 : decode cX7_firstGreatest 6 = .ok (.if_icmp .ge 24, 3) := by decide +kernel
theorem dX7_firstGreatest_9 : decode cX7_firstGreatest 9 = .ok (.aload_n 0, 1) := by decide +kernel
theorem dX7_firstGreatest_10 : decode cX7_firstGreatest 10 = .ok (.iload_n 1, 1) := by decide +kernel
theorem dX7_firstGreatest_11 : decode cX7_firstGreatest 11 = .ok (.iload_n 3, 1) := by decide +kernel
theorem dX7_firstGreatest_12 : decode cX7_firstGreatest 12 = .ok (.iadd, 1) := by decide +kernel
theorem dX7_firstGreatest_13 : decode cX7_firstGreatest 13 = .ok (.iaload, 1) := by decide +kernel
theorem dX7_firstGreatest_14 : decode cX7_firstGreatest 14 = .ok (.aload_n 0, 1) := by decide +kernel
theorem dX7_firstGreatest_15 : decode cX7_firstGreatest 15 = .ok (.iload_n 1, 1) := by decide +kernel
theorem dX7_firstGreatest_16 : decode cX7_firstGreatest 16 = .ok (.iload_n 2, 1) := by decide +kernel
theorem dX7_firstGreatest_17 : decode cX7_firstGreatest 17 = .ok (.iadd, 1) := by decide +kernel
theorem dX7_firstGreatest_18 : decode cX7_firstGreatest 18 = .ok (.iaload, 1) := by decide +kernel
theorem dX7_firstGreatest_19 : decode cX7_firstGreatest 19 = .ok (.if_icmp .le 5, 3) := by decide +kernel
theorem dX7_firstGreatest_24 : decode cX7_firstGreatest 24 = .ok (.iinc 3 1, 3) := by decide +kernel
theorem dX7_firstGreatest_27 : decode cX7_firstGreatest 27 = .ok (.goto (-23), 3) := by decide +kernel
theorem dX7_firstGreatest_30 : decode cX7_firstGreatest 30 = .ok (.iload_n 2, 1) := by decide +kernel
theorem dX7_firstGreatest_31 : decode cX7_firstGreatest 31 = .ok (.ireturn, 1) := by decide +kernel
theorem dX7_clear_0 : decode cX7_clear 0 = .ok (.iconst 0, 1) := by decide +kernel
theorem dX7_clear_1 : decode cX7_clear 1 = .ok (.istore_n 1, 1) := by decide +kernel
theorem dX7_clear_2 : decode cX7_clear 2 = .ok (.iload_n 1, 1) := by decide +kernel
theorem dX7_clear_3 : decode cX7_clear 3 = .ok (.iconst 4, 1) := by decide +kernel
theorem dX7_clear_4 : decode cX7_clear 4 = .ok (.if_icmp .ge 13, 3) := by decide +kernel
theorem dX7_clear_7 : decode cX7_clear 7 = .ok (.aload_n 0, 1) := by decide +kernel
theorem dX7_clear_8 : decode cX7_clear 8 = .ok (.iload_n 1, 1) := by decide +kernel
theorem dX7_clear_9 : decode cX7_clear 9 = .ok (.iconst 0, 1) := by decide +kernel
theorem dX7_clear_10 : decode cX7_clear 10 = .ok (.iastore, 1) := by decide +kernel
theorem dX7_clear_11 : decode cX7_clear 11 = .ok (.iinc 1 1, 3) := by decide +kernel
theorem dX7_clear_14 : decode cX7_clear 14 = .ok (.goto (-12), 3) := by decide +kernel
theorem dX7_clear_17 : decode cX7_clear 17 = .ok (.return_, 1) := by decide +kernel
