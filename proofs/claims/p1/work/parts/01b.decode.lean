theorem dX0_init_0 : decode cX0_init 0 = .ok (.aload_n 0, 1) := by decide +kernel
theorem dX0_init_1 : decode cX0_init 1 = .ok (.invokespecial 3, 3) := by decide +kernel
theorem dX0_init_4 : decode cX0_init 4 = .ok (.aload_n 0, 1) := by decide +kernel
theorem dX0_init_5 : decode cX0_init 5 = .ok (.bipush 8, 2) := by decide +kernel
theorem dX0_init_7 : decode cX0_init 7 = .ok (.newarray .int, 2) := by decide +kernel
theorem dX0_init_9 : decode cX0_init 9 = .ok (.putfield 9, 3) := by decide +kernel
theorem dX0_init_12 : decode cX0_init 12 = .ok (.aload_n 0, 1) := by decide +kernel
theorem dX0_init_13 : decode cX0_init 13 = .ok (.sipush 300, 3) := by decide +kernel
theorem dX0_init_16 : decode cX0_init 16 = .ok (.newarray .int, 2) := by decide +kernel
theorem dX0_init_18 : decode cX0_init 18 = .ok (.putfield 15, 3) := by decide +kernel
theorem dX0_init_21 : decode cX0_init 21 = .ok (.aload_n 0, 1) := by decide +kernel
theorem dX0_init_22 : decode cX0_init 22 = .ok (.sipush 2400, 3) := by decide +kernel
theorem dX0_init_25 : decode cX0_init 25 = .ok (.newarray .int, 2) := by decide +kernel
theorem dX0_init_27 : decode cX0_init 27 = .ok (.putfield 18, 3) := by decide +kernel
theorem dX0_init_30 : decode cX0_init 30 = .ok (.aload_n 0, 1) := by decide +kernel
theorem dX0_init_31 : decode cX0_init 31 = .ok (.sipush 2400, 3) := by decide +kernel
theorem dX0_init_34 : decode cX0_init 34 = .ok (.newarray .int, 2) := by decide +kernel
theorem dX0_init_36 : decode cX0_init 36 = .ok (.putfield 21, 3) := by decide +kernel
theorem dX0_init_39 : decode cX0_init 39 = .ok (.aload_n 0, 1) := by decide +kernel
theorem dX0_init_40 : decode cX0_init 40 = .ok (.iconst 0, 1) := by decide +kernel
theorem dX0_init_41 : decode cX0_init 41 = .ok (.putfield 24, 3) := by decide +kernel
theorem dX0_init_44 : decode cX0_init 44 = .ok (.return_, 1) := by decide +kernel
theorem dX0_append_0 : decode cX0_append 0 = .ok (.aload_n 0, 1) := by decide +kernel
theorem dX0_append_1 : decode cX0_append 1 = .ok (.getfield 24, 3) := by decide +kernel
theorem dX0_append_4 : decode cX0_append 4 = .ok (.sipush 300, 3) := by decide +kernel
theorem dX0_append_7 : decode cX0_append 7 = .ok (.if_icmp .lt 4, 3) := by decide +kernel
theorem dX0_append_11 : decode cX0_append 11 = .ok (.aload_n 0, 1) := by decide +kernel
theorem dX0_append_12 : decode cX0_append 12 = .ok (.getfield 15, 3) := by decide +kernel
theorem dX0_append_15 : decode cX0_append 15 = .ok (.aload_n 0, 1) := by decide +kernel
theorem dX0_append_16 : decode cX0_append 16 = .ok (.getfield 24, 3) := by decide +kernel
theorem dX0_append_19 : decode cX0_append 19 = .ok (.iload_n 1, 1) := by decide +kernel
theorem dX0_append_20 : decode cX0_append 20 = .ok (.iastore, 1) := by decide +kernel
theorem dX0_append_21 : decode cX0_append 21 = .ok (.iconst 0, 1) := by decide +kernel
theorem dX0_append_22 : decode cX0_append 22 = .ok (.istore_n 3, 1) := by decide +kernel
theorem dX0_append_23 : decode cX0_append 23 = .ok (.iload_n 3, 1) := by decide +kernel
theorem dX0_append_24 : decode cX0_append 24 = .ok (.bipush 8, 2) := by decide +kernel
theorem dX0_append_26 : decode cX0_append 26 = .ok (.if_icmp .ge 34, 3) := by decide +kernel
theorem dX0_append_29 : decode cX0_append 29 = .ok (.aload_n 0, 1) := by decide +kernel
theorem dX0_append_30 : decode cX0_append 30 = .ok (.getfield 18, 3) := by decide +kernel
theorem dX0_append_33 : decode cX0_append 33 = .ok (.aload_n 0, 1) := by decide +kernel
theorem dX0_append_34 : decode cX0_append 34 = .ok (.getfield 24, 3) := by decide +kernel
theorem dX0_append_37 : decode cX0_append 37 = .ok (.bipush 8, 2) := by decide +kernel
theorem dX0_append_39 : decode cX0_append 39 = .ok (.imul, 1) := by decide +kernel
theorem dX0_append_40 : decode cX0_append 40 = .ok (.iload_n 3, 1) := by decide +kernel
theorem dX0_append_41 : decode cX0_append 41 = .ok (.iadd, 1) := by decide +kernel
theorem dX0_append_42 : decode cX0_append 42 = .ok (.aload_n 2, 1) := by decide +kernel
theorem dX0_append_43 : decode cX0_append 43 = .ok (.iload_n 3, 1) := by decide +kernel
theorem dX0_append_44 : decode cX0_append 44 = .ok (.iaload, 1) := by decide +kernel
theorem dX0_append_45 : decode cX0_append 45 = .ok (.iastore, 1) := by decide +kernel
theorem dX0_append_46 : decode cX0_append 46 = .ok (.aload_n 0, 1) := by decide +kernel
theorem dX0_append_47 : decode cX0_append 47 = .ok (.iload_n 3, 1) := by decide +kernel
theorem dX0_append_48 : decode cX0_append 48 = .ok (.aload_n 2, 1) := by decide +kernel
theorem dX0_append_49 : decode cX0_append 49 = .ok (.iload_n 3, 1) := by decide +kernel
theorem dX0_append_50 : decode cX0_append 50 = .ok (.iaload, 1) := by decide +kernel
theorem dX0_append_51 : decode cX0_append 51 = .ok (.invokevirtual 28, 3) := by decide +kernel
theorem dX0_append_54 : decode cX0_append 54 = .ok (.iinc 3 1, 3) := by decide +kernel
theorem dX0_append_57 : decode cX0_append 57 = .ok (.goto (-34), 3) := by decide +kernel
theorem dX0_append_60 : decode cX0_append 60 = .ok (.aload_n 0, 1) := by decide +kernel
theorem dX0_append_61 : decode cX0_append 61 = .ok (.dup, 1) := by decide +kernel
theorem dX0_append_62 : decode cX0_append 62 = .ok (.getfield 24, 3) := by decide +kernel
theorem dX0_append_65 : decode cX0_append 65 = .ok (.iconst 1, 1) := by decide +kernel
theorem dX0_append_66 : decode cX0_append 66 = .ok (.iadd, 1) := by decide +kernel
theorem dX0_append_67 : decode cX0_append 67 = .ok (.putfield 24, 3) := by decide +kernel
theorem dX0_append_70 : decode cX0_append 70 = .ok (.return_, 1) := by decide +kernel
theorem dX0_putInOrder_0 : decode cX0_putInOrder 0 = .ok (.iload_n 1, 1) := by decide +kernel
theorem dX0_putInOrder_1 : decode cX0_putInOrder 1 = .ok (.sipush 300, 3) := by decide +kernel
theorem dX0_putInOrder_4 : decode cX0_putInOrder 4 = .ok (.imul, 1) := by decide +kernel
theorem dX0_putInOrder_5 : decode cX0_putInOrder 5 = .ok (.istore_n 3, 1) := by decide +kernel
theorem dX0_putInOrder_6 : decode cX0_putInOrder 6 = .ok (.iload_n 3, 1) := by decide +kernel
theorem dX0_putInOrder_7 : decode cX0_putInOrder 7 = .ok (.aload_n 0, 1) := by decide +kernel
theorem dX0_putInOrder_8 : decode cX0_putInOrder 8 = .ok (.getfield 24, 3) := by decide +kernel
theorem dX0_putInOrder_11 : decode cX0_putInOrder 11 = .ok (.iadd, 1) := by decide +kernel
theorem dX0_putInOrder_12 : decode cX0_putInOrder 12 = .ok (.istore 4, 2) := by decide +kernel
theorem dX0_putInOrder_14 : decode cX0_putInOrder 14 = .ok (.iload 4, 2) := by decide +kernel
theorem dX0_putInOrder_16 : decode cX0_putInOrder 16 = .ok (.iload_n 3, 1) := by decide +kernel
theorem dX0_putInOrder_17 : decode cX0_putInOrder 17 = .ok (.if_icmp .le 32, 3) := by decide +kernel
theorem dX0_putInOrder_49 : decode cX0_putInOrder 49 = .ok (.aload_n 0, 1) := by decide +kernel
theorem dX0_putInOrder_50 : decode cX0_putInOrder 50 = .ok (.getfield 21, 3) := by decide +kernel
theorem dX0_putInOrder_53 : decode cX0_putInOrder 53 = .ok (.iload 4, 2) := by decide +kernel
theorem dX0_putInOrder_55 : decode cX0_putInOrder 55 = .ok (.aload_n 0, 1) := by decide +kernel
theorem dX0_putInOrder_56 : decode cX0_putInOrder 56 = .ok (.getfield 21, 3) := by decide +kernel
theorem dX0_putInOrder_59 : decode cX0_putInOrder 59 = .ok (.iload 4, 2) := by decide +kernel
theorem dX0_putInOrder_61 : decode cX0_putInOrder 61 = .ok (.iconst 1, 1) := by decide +kernel
theorem dX0_putInOrder_62 : decode cX0_putInOrder 62 = .ok (.iadd, 1) := by decide +kernel
theorem dX0_putInOrder_63 : decode cX0_putInOrder 63 = .ok (.iload_n 3, 1) := by decide +kernel
theorem dX0_putInOrder_64 : decode cX0_putInOrder 64 = .ok (.aload_n 0, 1) := by decide +kernel
theorem dX0_putInOrder_65 : decode cX0_putInOrder 65 = .ok (.getfield 24, 3) := by decide +kernel
theorem dX0_putInOrder_68 : decode cX0_putInOrder 68 = .ok (.iadd, 1) := by decide +kernel
theorem dX0_putInOrder_69 : decode cX0_putInOrder 69 = .ok (.iload 4, 2) := by decide +kernel
theorem dX0_putInOrder_71 : decode cX0_putInOrder 71 = .ok (.isub, 1) := by decide +kernel
theorem dX0_putInOrder_72 : decode cX0_putInOrder 72 = .ok (.invokestatic 32, 3) := by decide +kernel
theorem dX0_putInOrder_75 : decode cX0_putInOrder 75 = .ok (.aload_n 0, 1) := by decide +kernel
theorem dX0_putInOrder_76 : decode cX0_putInOrder 76 = .ok (.getfield 21, 3) := by decide +kernel
theorem dX0_putInOrder_79 : decode cX0_putInOrder 79 = .ok (.iload 4, 2) := by decide +kernel
theorem dX0_putInOrder_81 : decode cX0_putInOrder 81 = .ok (.aload_n 0, 1) := by decide +kernel
theorem dX0_putInOrder_82 : decode cX0_putInOrder 82 = .ok (.getfield 24, 3) := by decide +kernel
theorem dX0_putInOrder_85 : decode cX0_putInOrder 85 = .ok (.iastore, 1) := by decide +kernel
theorem dX0_putInOrder_86 : decode cX0_putInOrder 86 = .ok (.return_, 1) := by decide +kernel
theorem dX0_haveGaps_0 : decode cX0_haveGaps 0 = .ok (.iconst 0, 1) := by decide +kernel
theorem dX0_haveGaps_1 : decode cX0_haveGaps 1 = .ok (.istore_n 1, 1) := by decide +kernel
theorem dX0_haveGaps_2 : decode cX0_haveGaps 2 = .ok (.iload_n 1, 1) := by decide +kernel
theorem dX0_haveGaps_3 : decode cX0_haveGaps 3 = .ok (.bipush 8, 2) := by decide +kernel
theorem dX0_haveGaps_5 : decode cX0_haveGaps 5 = .ok (.if_icmp .ge 44, 3) := by decide +kernel
theorem dX0_haveGaps_8 : decode cX0_haveGaps 8 = .ok (.aload_n 0, 1) := by decide +kernel
theorem dX0_haveGaps_9 : decode cX0_haveGaps 9 = .ok (.getfield 24, 3) := by decide +kernel
theorem dX0_haveGaps_12 : decode cX0_haveGaps 12 = .ok (.ifCond .le 31, 3) := by decide +kernel
theorem dX0_haveGaps_43 : decode cX0_haveGaps 43 = .ok (.iinc 1 1, 3) := by decide +kernel
theorem dX0_haveGaps_46 : decode cX0_haveGaps 46 = .ok (.goto (-44), 3) := by decide +kernel
theorem dX0_haveGaps_49 : decode cX0_haveGaps 49 = .ok (.iconst 0, 1) := by decide +kernel
theorem dX0_haveGaps_50 : decode cX0_haveGaps 50 = .ok (.ireturn, 1) := by decide +kernel
theorem dX1_init_0 : decode cX1_init 0 = .ok (.aload_n 0, 1) := by decide +kernel
theorem dX1_init_1 : decode cX1_init 1 = .ok (.invokespecial 3, 3) := by decide +kernel
theorem dX1_init_4 : decode cX1_init 4 = .ok (.aload_n 0, 1) := by decide +kernel
theorem dX1_init_5 : decode cX1_init 5 = .ok (.iconst 4, 1) := by decide +kernel
theorem dX1_init_6 : decode cX1_init 6 = .ok (.newarray .int, 2) := by decide +kernel
theorem dX1_init_8 : decode cX1_init 8 = .ok (.putfield 9, 3) := by decide +kernel
theorem dX1_init_11 : decode cX1_init 11 = .ok (.aload_n 0, 1) := by decide +kernel
theorem dX1_init_12 : decode cX1_init 12 = .ok (.iconst 4, 1) := by decide +kernel
theorem dX1_init_13 : decode cX1_init 13 = .ok (.newarray .int, 2) := by decide +kernel
theorem dX1_init_15 : decode cX1_init 15 = .ok (.putfield 15, 3) := by decide +kernel
theorem dX1_init_18 : decode cX1_init 18 = .ok (.aload_n 0, 1) := by decide +kernel
theorem dX1_init_19 : decode cX1_init 19 = .ok (.aload_n 1, 1) := by decide +kernel
theorem dX1_init_20 : decode cX1_init 20 = .ok (.putfield 18, 3) := by decide +kernel
theorem dX1_init_23 : decode cX1_init 23 = .ok (.aload_n 0, 1) := by decide +kernel
theorem dX1_init_24 : decode cX1_init 24 = .ok (.aload_n 2, 1) := by decide +kernel
theorem dX1_init_25 : decode cX1_init 25 = .ok (.putfield 22, 3) := by decide +kernel
theorem dX1_init_28 : decode cX1_init 28 = .ok (.return_, 1) := by decide +kernel
theorem dX1_findInto_0 : decode cX1_findInto 0 = .ok (.aload_n 0, 1) := by decide +kernel
theorem dX1_findInto_1 : decode cX1_findInto 1 = .ok (.aload_n 1, 1) := by decide +kernel
theorem dX1_findInto_2 : decode cX1_findInto 2 = .ok (.iconst 0, 1) := by decide +kernel
theorem dX1_findInto_3 : decode cX1_findInto 3 = .ok (.aload_n 0, 1) := by decide +kernel
theorem dX1_findInto_4 : decode cX1_findInto 4 = .ok (.getfield 22, 3) := by decide +kernel
theorem dX1_findInto_7 : decode cX1_findInto 7 = .ok (.getfield 26, 3) := by decide +kernel
theorem dX1_findInto_10 : decode cX1_findInto 10 = .ok (.iconst 0, 1) := by decide +kernel
theorem dX1_findInto_11 : decode cX1_findInto 11 = .ok (.iload_n 2, 1) := by decide +kernel
theorem dX1_findInto_12 : decode cX1_findInto 12 = .ok (.invokevirtual 32, 3) := by decide +kernel
theorem dX1_findInto_15 : decode cX1_findInto 15 = .ok (.pop, 1) := by decide +kernel
theorem dX1_findInto_16 : decode cX1_findInto 16 = .ok (.return_, 1) := by decide +kernel
theorem dX1_build_0 : decode cX1_build 0 = .ok (.aload_n 0, 1) := by decide +kernel
theorem dX1_build_1 : decode cX1_build 1 = .ok (.getfield 22, 3) := by decide +kernel
theorem dX1_build_4 : decode cX1_build 4 = .ok (.iload_n 2, 1) := by decide +kernel
theorem dX1_build_5 : decode cX1_build 5 = .ok (.iload_n 3, 1) := by decide +kernel
theorem dX1_build_6 : decode cX1_build 6 = .ok (.aload_n 0, 1) := by decide +kernel
theorem dX1_build_7 : decode cX1_build 7 = .ok (.getfield 9, 3) := by decide +kernel
theorem dX1_build_10 : decode cX1_build 10 = .ok (.invokevirtual 36, 3) := by decide +kernel
theorem dX1_build_13 : decode cX1_build 13 = .ok (.aload_n 1, 1) := by decide +kernel
theorem dX1_build_14 : decode cX1_build 14 = .ok (.iload 4, 2) := by decide +kernel
theorem dX1_build_16 : decode cX1_build 16 = .ok (.aload_n 0, 1) := by decide +kernel
theorem dX1_build_17 : decode cX1_build 17 = .ok (.getfield 9, 3) := by decide +kernel
theorem dX1_build_20 : decode cX1_build 20 = .ok (.iconst 0, 1) := by decide +kernel
theorem dX1_build_21 : decode cX1_build 21 = .ok (.invokevirtual 40, 3) := by decide +kernel
theorem dX1_build_24 : decode cX1_build 24 = .ok (.istore 6, 2) := by decide +kernel
theorem dX1_build_26 : decode cX1_build 26 = .ok (.iload 6, 2) := by decide +kernel
theorem dX1_build_28 : decode cX1_build 28 = .ok (.ifCond .lt 14, 3) := by decide +kernel
theorem dX1_build_31 : decode cX1_build 31 = .ok (.iload 4, 2) := by decide +kernel
theorem dX1_build_33 : decode cX1_build 33 = .ok (.iconst 2, 1) := by decide +kernel
theorem dX1_build_34 : decode cX1_build 34 = .ok (.if_icmp .ge 8, 3) := by decide +kernel
theorem dX1_build_37 : decode cX1_build 37 = .ok (.iload 5, 2) := by decide +kernel
theorem dX1_build_39 : decode cX1_build 39 = .ok (.ifCond .gt 6, 3) := by decide +kernel
theorem dX1_build_42 : decode cX1_build 42 = .ok (.iload 6, 2) := by decide +kernel
theorem dX1_build_44 : decode cX1_build 44 = .ok (.ireturn, 1) := by decide +kernel
theorem dX1_build_45 : decode cX1_build 45 = .ok (.aload_n 0, 1) := by decide +kernel
theorem dX1_build_46 : decode cX1_build 46 = .ok (.iload_n 2, 1) := by decide +kernel
theorem dX1_build_47 : decode cX1_build 47 = .ok (.iload_n 3, 1) := by decide +kernel
theorem dX1_build_48 : decode cX1_build 48 = .ok (.invokevirtual 46, 3) := by decide +kernel
theorem dX1_build_51 : decode cX1_build 51 = .ok (.iload 5, 2) := by decide +kernel
theorem dX1_build_53 : decode cX1_build 53 = .ok (.iconst 1, 1) := by decide +kernel
theorem dX1_build_54 : decode cX1_build 54 = .ok (.if_icmp .le 14, 3) := by decide +kernel
theorem dX1_build_57 : decode cX1_build 57 = .ok (.aload_n 0, 1) := by decide +kernel
theorem dX1_build_58 : decode cX1_build 58 = .ok (.getfield 50, 3) := by decide +kernel
theorem dX1_build_61 : decode cX1_build 61 = .ok (.ifCond .le 7, 3) := by decide +kernel
theorem dX1_build_68 : decode cX1_build 68 = .ok (.iconst 0, 1) := by decide +kernel
theorem dX1_build_69 : decode cX1_build 69 = .ok (.istore 7, 2) := by decide +kernel
theorem dX1_build_71 : decode cX1_build 71 = .ok (.iconst 0, 1) := by decide +kernel
theorem dX1_build_72 : decode cX1_build 72 = .ok (.istore 8, 2) := by decide +kernel
theorem dX1_build_74 : decode cX1_build 74 = .ok (.iload 8, 2) := by decide +kernel
theorem dX1_build_76 : decode cX1_build 76 = .ok (.bipush 8, 2) := by decide +kernel
theorem dX1_build_78 : decode cX1_build 78 = .ok (.if_icmp .ge 22, 3) := by decide +kernel
theorem dX1_build_81 : decode cX1_build 81 = .ok (.iload 7, 2) := by decide +kernel
theorem dX1_build_83 : decode cX1_build 83 = .ok (.ifCond .eq 17, 3) := by decide +kernel
theorem dX1_build_100 : decode cX1_build 100 = .ok (.aload_n 0, 1) := by decide +kernel
theorem dX1_build_101 : decode cX1_build 101 = .ok (.getfield 57, 3) := by decide +kernel
theorem dX1_build_104 : decode cX1_build 104 = .ok (.istore 8, 2) := by decide +kernel
theorem dX1_build_106 : decode cX1_build 106 = .ok (.aload_n 0, 1) := by decide +kernel
theorem dX1_build_107 : decode cX1_build 107 = .ok (.getfield 60, 3) := by decide +kernel
theorem dX1_build_110 : decode cX1_build 110 = .ok (.istore 9, 2) := by decide +kernel
theorem dX1_build_112 : decode cX1_build 112 = .ok (.iload 8, 2) := by decide +kernel
theorem dX1_build_114 : decode cX1_build 114 = .ok (.iconst (-1), 1) := by decide +kernel
theorem dX1_build_115 : decode cX1_build 115 = .ok (.if_icmp .ne 6, 3) := by decide +kernel
theorem dX1_build_118 : decode cX1_build 118 = .ok (.iload 6, 2) := by decide +kernel
theorem dX1_build_120 : decode cX1_build 120 = .ok (.ireturn, 1) := by decide +kernel
theorem dX1_takeOne_0 : decode cX1_takeOne 0 = .ok (.aload_n 0, 1) := by decide +kernel
theorem dX1_takeOne_1 : decode cX1_takeOne 1 = .ok (.getfield 22, 3) := by decide +kernel
theorem dX1_takeOne_4 : decode cX1_takeOne 4 = .ok (.iconst 0, 1) := by decide +kernel
theorem dX1_takeOne_5 : decode cX1_takeOne 5 = .ok (.iload_n 1, 1) := by decide +kernel
theorem dX1_takeOne_6 : decode cX1_takeOne 6 = .ok (.iload_n 2, 1) := by decide +kernel
theorem dX1_takeOne_7 : decode cX1_takeOne 7 = .ok (.iconst 0, 1) := by decide +kernel
theorem dX1_takeOne_8 : decode cX1_takeOne 8 = .ok (.invokevirtual 74, 3) := by decide +kernel
theorem dX1_takeOne_11 : decode cX1_takeOne 11 = .ok (.aload_n 0, 1) := by decide +kernel
theorem dX1_takeOne_12 : decode cX1_takeOne 12 = .ok (.iload_n 1, 1) := by decide +kernel
theorem dX1_takeOne_13 : decode cX1_takeOne 13 = .ok (.iload_n 2, 1) := by decide +kernel
theorem dX1_takeOne_14 : decode cX1_takeOne 14 = .ok (.iconst 0, 1) := by decide +kernel
theorem dX1_takeOne_15 : decode cX1_takeOne 15 = .ok (.invokevirtual 77, 3) := by decide +kernel
theorem dX1_takeOne_18 : decode cX1_takeOne 18 = .ok (.aload_n 0, 1) := by decide +kernel
theorem dX1_takeOne_19 : decode cX1_takeOne 19 = .ok (.aload_n 0, 1) := by decide +kernel
theorem dX1_takeOne_20 : decode cX1_takeOne 20 = .ok (.getfield 80, 3) := by decide +kernel
theorem dX1_takeOne_23 : decode cX1_takeOne 23 = .ok (.putfield 57, 3) := by decide +kernel
theorem dX1_takeOne_26 : decode cX1_takeOne 26 = .ok (.aload_n 0, 1) := by decide +kernel
theorem dX1_takeOne_27 : decode cX1_takeOne 27 = .ok (.aload_n 0, 1) := by decide +kernel
theorem dX1_takeOne_28 : decode cX1_takeOne 28 = .ok (.getfield 83, 3) := by decide +kernel
theorem dX1_takeOne_31 : decode cX1_takeOne 31 = .ok (.putfield 60, 3) := by decide +kernel
theorem dX1_takeOne_34 : decode cX1_takeOne 34 = .ok (.aload_n 0, 1) := by decide +kernel
theorem dX1_takeOne_35 : decode cX1_takeOne 35 = .ok (.aload_n 0, 1) := by decide +kernel
theorem dX1_takeOne_36 : decode cX1_takeOne 36 = .ok (.getfield 86, 3) := by decide +kernel
theorem dX1_takeOne_39 : decode cX1_takeOne 39 = .ok (.putfield 50, 3) := by decide +kernel
theorem dX1_takeOne_42 : decode cX1_takeOne 42 = .ok (.aload_n 0, 1) := by decide +kernel
theorem dX1_takeOne_43 : decode cX1_takeOne 43 = .ok (.aload_n 0, 1) := by decide +kernel
theorem dX1_takeOne_44 : decode cX1_takeOne 44 = .ok (.getfield 80, 3) := by decide +kernel
theorem dX1_takeOne_47 : decode cX1_takeOne 47 = .ok (.iconst (-1), 1) := by decide +kernel
theorem dX1_takeOne_48 : decode cX1_takeOne 48 = .ok (.if_icmp .ne 7, 3) := by decide +kernel
theorem dX1_takeOne_51 : decode cX1_takeOne 51 = .ok (.iconst 0, 1) := by decide +kernel
theorem dX1_takeOne_52 : decode cX1_takeOne 52 = .ok (.goto 4, 3) := by decide +kernel
theorem dX1_takeOne_56 : decode cX1_takeOne 56 = .ok (.putfield 89, 3) := by decide +kernel
theorem dX1_takeOne_59 : decode cX1_takeOne 59 = .ok (.return_, 1) := by decide +kernel
theorem dX1_seekOne_0 : decode cX1_seekOne 0 = .ok (.aload_n 0, 1) := by decide +kernel
theorem dX1_seekOne_1 : decode cX1_seekOne 1 = .ok (.getfield 9, 3) := by decide +kernel
theorem dX1_seekOne_4 : decode cX1_seekOne 4 = .ok (.invokestatic 114, 3) := by decide +kernel
theorem dX1_seekOne_7 : decode cX1_seekOne 7 = .ok (.aload_n 0, 1) := by decide +kernel
theorem dX1_seekOne_8 : decode cX1_seekOne 8 = .ok (.iconst 0, 1) := by decide +kernel
theorem dX1_seekOne_9 : decode cX1_seekOne 9 = .ok (.putfield 118, 3) := by decide +kernel
theorem dX1_seekOne_12 : decode cX1_seekOne 12 = .ok (.iload_n 1, 1) := by decide +kernel
theorem dX1_seekOne_13 : decode cX1_seekOne 13 = .ok (.istore 4, 2) := by decide +kernel
theorem dX1_seekOne_15 : decode cX1_seekOne 15 = .ok (.iload 4, 2) := by decide +kernel
theorem dX1_seekOne_17 : decode cX1_seekOne 17 = .ok (.iload_n 2, 1) := by decide +kernel
theorem dX1_seekOne_18 : decode cX1_seekOne 18 = .ok (.if_icmp .ge 64, 3) := by decide +kernel
theorem dX1_seekOne_82 : decode cX1_seekOne 82 = .ok (.aload_n 0, 1) := by decide +kernel
theorem dX1_seekOne_83 : decode cX1_seekOne 83 = .ok (.iconst (-1), 1) := by decide +kernel
theorem dX1_seekOne_84 : decode cX1_seekOne 84 = .ok (.putfield 80, 3) := by decide +kernel
theorem dX1_seekOne_87 : decode cX1_seekOne 87 = .ok (.aload_n 0, 1) := by decide +kernel
theorem dX1_seekOne_88 : decode cX1_seekOne 88 = .ok (.iconst 0, 1) := by decide +kernel
theorem dX1_seekOne_89 : decode cX1_seekOne 89 = .ok (.putfield 83, 3) := by decide +kernel
theorem dX1_seekOne_92 : decode cX1_seekOne 92 = .ok (.aload_n 0, 1) := by decide +kernel
theorem dX1_seekOne_93 : decode cX1_seekOne 93 = .ok (.aload_n 0, 1) := by decide +kernel
theorem dX1_seekOne_94 : decode cX1_seekOne 94 = .ok (.getfield 118, 3) := by decide +kernel
theorem dX1_seekOne_97 : decode cX1_seekOne 97 = .ok (.aload_n 0, 1) := by decide +kernel
theorem dX1_seekOne_98 : decode cX1_seekOne 98 = .ok (.getfield 9, 3) := by decide +kernel
theorem dX1_seekOne_101 : decode cX1_seekOne 101 = .ok (.aload_n 0, 1) := by decide +kernel
theorem dX1_seekOne_102 : decode cX1_seekOne 102 = .ok (.getfield 9, 3) := by decide +kernel
theorem dX1_seekOne_105 : decode cX1_seekOne 105 = .ok (.iconst 0, 1) := by decide +kernel
theorem dX1_seekOne_106 : decode cX1_seekOne 106 = .ok (.invokestatic 124, 3) := by decide +kernel
theorem dX1_seekOne_109 : decode cX1_seekOne 109 = .ok (.iaload, 1) := by decide +kernel
theorem dX1_seekOne_110 : decode cX1_seekOne 110 = .ok (.isub, 1) := by decide +kernel
theorem dX1_seekOne_111 : decode cX1_seekOne 111 = .ok (.putfield 86, 3) := by decide +kernel
theorem dX1_seekOne_114 : decode cX1_seekOne 114 = .ok (.iconst 0, 1) := by decide +kernel
theorem dX1_seekOne_115 : decode cX1_seekOne 115 = .ok (.istore 4, 2) := by decide +kernel
theorem dX1_seekOne_117 : decode cX1_seekOne 117 = .ok (.iload 4, 2) := by decide +kernel
theorem dX1_seekOne_119 : decode cX1_seekOne 119 = .ok (.bipush 8, 2) := by decide +kernel
theorem dX1_seekOne_121 : decode cX1_seekOne 121 = .ok (.if_icmp .ge 39, 3) := by decide +kernel
theorem dX1_seekOne_124 : decode cX1_seekOne 124 = .ok (.aload_n 0, 1) := by decide +kernel
theorem dX1_seekOne_125 : decode cX1_seekOne 125 = .ok (.getfield 86, 3) := by decide +kernel
theorem dX1_seekOne_128 : decode cX1_seekOne 128 = .ok (.ifCond .le 32, 3) := by decide +kernel
theorem dX1_seekOne_160 : decode cX1_seekOne 160 = .ok (.return_, 1) := by decide +kernel
theorem dX2_init_0 : decode cX2_init 0 = .ok (.aload_n 0, 1) := by decide +kernel
theorem dX2_init_1 : decode cX2_init 1 = .ok (.invokespecial 3, 3) := by decide +kernel
theorem dX2_init_4 : decode cX2_init 4 = .ok (.aload_n 0, 1) := by decide +kernel
theorem dX2_init_5 : decode cX2_init 5 = .ok (.iconst 4, 1) := by decide +kernel
theorem dX2_init_6 : decode cX2_init 6 = .ok (.newarray .int, 2) := by decide +kernel
theorem dX2_init_8 : decode cX2_init 8 = .ok (.putfield 9, 3) := by decide +kernel
theorem dX2_init_11 : decode cX2_init 11 = .ok (.aload_n 0, 1) := by decide +kernel
theorem dX2_init_12 : decode cX2_init 12 = .ok (.iconst 4, 1) := by decide +kernel
theorem dX2_init_13 : decode cX2_init 13 = .ok (.newarray .int, 2) := by decide +kernel
theorem dX2_init_15 : decode cX2_init 15 = .ok (.putfield 15, 3) := by decide +kernel
theorem dX2_init_18 : decode cX2_init 18 = .ok (.aload_n 0, 1) := by decide +kernel
theorem dX2_init_19 : decode cX2_init 19 = .ok (.iconst 4, 1) := by decide +kernel
theorem dX2_init_20 : decode cX2_init 20 = .ok (.newarray .int, 2) := by decide +kernel
theorem dX2_init_22 : decode cX2_init 22 = .ok (.putfield 18, 3) := by decide +kernel
theorem dX2_init_25 : decode cX2_init 25 = .ok (.aload_n 0, 1) := by decide +kernel
theorem dX2_init_26 : decode cX2_init 26 = .ok (.aload_n 1, 1) := by decide +kernel
theorem dX2_init_27 : decode cX2_init 27 = .ok (.putfield 21, 3) := by decide +kernel
theorem dX2_init_30 : decode cX2_init 30 = .ok (.aload_n 0, 1) := by decide +kernel
theorem dX2_init_31 : decode cX2_init 31 = .ok (.aload_n 2, 1) := by decide +kernel
theorem dX2_init_32 : decode cX2_init 32 = .ok (.putfield 25, 3) := by decide +kernel
theorem dX2_init_35 : decode cX2_init 35 = .ok (.return_, 1) := by decide +kernel
theorem dX2_growInto_0 : decode cX2_growInto 0 = .ok (.aload_n 0, 1) := by decide +kernel
theorem dX2_growInto_1 : decode cX2_growInto 1 = .ok (.iload_n 2, 1) := by decide +kernel
theorem dX2_growInto_2 : decode cX2_growInto 2 = .ok (.bipush 8, 2) := by decide +kernel
theorem dX2_growInto_4 : decode cX2_growInto 4 = .ok (.invokestatic 29, 3) := by decide +kernel
theorem dX2_growInto_7 : decode cX2_growInto 7 = .ok (.putfield 35, 3) := by decide +kernel
theorem dX2_growInto_10 : decode cX2_growInto 10 = .ok (.aload_n 0, 1) := by decide +kernel
theorem dX2_growInto_11 : decode cX2_growInto 11 = .ok (.iload_n 3, 1) := by decide +kernel
theorem dX2_growInto_12 : decode cX2_growInto 12 = .ok (.putfield 39, 3) := by decide +kernel
theorem dX2_growInto_15 : decode cX2_growInto 15 = .ok (.aload_n 0, 1) := by decide +kernel
theorem dX2_growInto_16 : decode cX2_growInto 16 = .ok (.aload_n 1, 1) := by decide +kernel
theorem dX2_growInto_17 : decode cX2_growInto 17 = .ok (.iconst 0, 1) := by decide +kernel
theorem dX2_growInto_18 : decode cX2_growInto 18 = .ok (.aload_n 0, 1) := by decide +kernel
theorem dX2_growInto_19 : decode cX2_growInto 19 = .ok (.getfield 25, 3) := by decide +kernel
theorem dX2_growInto_22 : decode cX2_growInto 22 = .ok (.getfield 42, 3) := by decide +kernel
theorem dX2_growInto_25 : decode cX2_growInto 25 = .ok (.iconst 0, 1) := by decide +kernel
theorem dX2_growInto_26 : decode cX2_growInto 26 = .ok (.invokevirtual 47, 3) := by decide +kernel
theorem dX2_growInto_29 : decode cX2_growInto 29 = .ok (.pop, 1) := by decide +kernel
theorem dX2_growInto_30 : decode cX2_growInto 30 = .ok (.return_, 1) := by decide +kernel
theorem dX2_branch_0 : decode cX2_branch 0 = .ok (.aload_n 0, 1) := by decide +kernel
theorem dX2_branch_1 : decode cX2_branch 1 = .ok (.getfield 25, 3) := by decide +kernel
theorem dX2_branch_4 : decode cX2_branch 4 = .ok (.iload_n 2, 1) := by decide +kernel
theorem dX2_branch_5 : decode cX2_branch 5 = .ok (.iload_n 3, 1) := by decide +kernel
theorem dX2_branch_6 : decode cX2_branch 6 = .ok (.aload_n 0, 1) := by decide +kernel
theorem dX2_branch_7 : decode cX2_branch 7 = .ok (.getfield 9, 3) := by decide +kernel
theorem dX2_branch_10 : decode cX2_branch 10 = .ok (.invokevirtual 51, 3) := by decide +kernel
theorem dX2_branch_13 : decode cX2_branch 13 = .ok (.aload_n 1, 1) := by decide +kernel
theorem dX2_branch_14 : decode cX2_branch 14 = .ok (.iload 4, 2) := by decide +kernel
theorem dX2_branch_16 : decode cX2_branch 16 = .ok (.aload_n 0, 1) := by decide +kernel
theorem dX2_branch_17 : decode cX2_branch 17 = .ok (.getfield 9, 3) := by decide +kernel
theorem dX2_branch_20 : decode cX2_branch 20 = .ok (.iconst 0, 1) := by decide +kernel
theorem dX2_branch_21 : decode cX2_branch 21 = .ok (.invokevirtual 55, 3) := by decide +kernel
theorem dX2_branch_24 : decode cX2_branch 24 = .ok (.istore 5, 2) := by decide +kernel
theorem dX2_branch_26 : decode cX2_branch 26 = .ok (.iload 5, 2) := by decide +kernel
theorem dX2_branch_28 : decode cX2_branch 28 = .ok (.ifCond .lt 40, 3) := by decide +kernel
theorem dX2_branch_31 : decode cX2_branch 31 = .ok (.iload 4, 2) := by decide +kernel
theorem dX2_branch_33 : decode cX2_branch 33 = .ok (.aload_n 0, 1) := by decide +kernel
theorem dX2_branch_34 : decode cX2_branch 34 = .ok (.getfield 35, 3) := by decide +kernel
theorem dX2_branch_37 : decode cX2_branch 37 = .ok (.if_icmp .ge 31, 3) := by decide +kernel
theorem dX2_branch_40 : decode cX2_branch 40 = .ok (.aload_n 0, 1) := by decide +kernel
theorem dX2_branch_41 : decode cX2_branch 41 = .ok (.getfield 9, 3) := by decide +kernel
theorem dX2_branch_44 : decode cX2_branch 44 = .ok (.aload_n 0, 1) := by decide +kernel
theorem dX2_branch_45 : decode cX2_branch 45 = .ok (.getfield 9, 3) := by decide +kernel
theorem dX2_branch_48 : decode cX2_branch 48 = .ok (.iconst 0, 1) := by decide +kernel
theorem dX2_branch_49 : decode cX2_branch 49 = .ok (.invokestatic 61, 3) := by decide +kernel
theorem dX2_branch_52 : decode cX2_branch 52 = .ok (.iaload, 1) := by decide +kernel
theorem dX2_branch_53 : decode cX2_branch 53 = .ok (.iload_n 3, 1) := by decide +kernel
theorem dX2_branch_54 : decode cX2_branch 54 = .ok (.iload_n 2, 1) := by decide +kernel
theorem dX2_branch_55 : decode cX2_branch 55 = .ok (.isub, 1) := by decide +kernel
theorem dX2_branch_56 : decode cX2_branch 56 = .ok (.if_icmp .eq 12, 3) := by decide +kernel
theorem dX2_branch_68 : decode cX2_branch 68 = .ok (.iload 5, 2) := by decide +kernel
theorem dX2_branch_70 : decode cX2_branch 70 = .ok (.ireturn, 1) := by decide +kernel
theorem dX3_init_0 : decode cX3_init 0 = .ok (.aload_n 0, 1) := by decide +kernel
theorem dX3_init_1 : decode cX3_init 1 = .ok (.invokespecial 3, 3) := by decide +kernel
theorem dX3_init_4 : decode cX3_init 4 = .ok (.aload_n 0, 1) := by decide +kernel
theorem dX3_init_5 : decode cX3_init 5 = .ok (.sipush 511, 3) := by decide +kernel
theorem dX3_init_8 : decode cX3_init 8 = .ok (.newarray .int, 2) := by decide +kernel
theorem dX3_init_10 : decode cX3_init 10 = .ok (.putfield 9, 3) := by decide +kernel
theorem dX3_init_13 : decode cX3_init 13 = .ok (.aload_n 0, 1) := by decide +kernel
theorem dX3_init_14 : decode cX3_init 14 = .ok (.iconst 0, 1) := by decide +kernel
theorem dX3_init_15 : decode cX3_init 15 = .ok (.putfield 15, 3) := by decide +kernel
theorem dX3_init_18 : decode cX3_init 18 = .ok (.aload_n 0, 1) := by decide +kernel
theorem dX3_init_19 : decode cX3_init 19 = .ok (.iconst 1, 1) := by decide +kernel
theorem dX3_init_20 : decode cX3_init 20 = .ok (.putfield 19, 3) := by decide +kernel
theorem dX3_init_23 : decode cX3_init 23 = .ok (.return_, 1) := by decide +kernel
theorem dX4_init_0 : decode cX4_init 0 = .ok (.aload_n 0, 1) := by decide +kernel
theorem dX4_init_1 : decode cX4_init 1 = .ok (.invokespecial 3, 3) := by decide +kernel
theorem dX4_init_4 : decode cX4_init 4 = .ok (.aload_n 0, 1) := by decide +kernel
theorem dX4_init_5 : decode cX4_init 5 = .ok (.sipush 2400, 3) := by decide +kernel
theorem dX4_init_8 : decode cX4_init 8 = .ok (.newarray .int, 2) := by decide +kernel
theorem dX4_init_10 : decode cX4_init 10 = .ok (.putfield 9, 3) := by decide +kernel
theorem dX4_init_13 : decode cX4_init 13 = .ok (.aload_n 0, 1) := by decide +kernel
theorem dX4_init_14 : decode cX4_init 14 = .ok (.sipush 300, 3) := by decide +kernel
theorem dX4_init_17 : decode cX4_init 17 = .ok (.newarray .int, 2) := by decide +kernel
theorem dX4_init_19 : decode cX4_init 19 = .ok (.putfield 15, 3) := by decide +kernel
theorem dX4_init_22 : decode cX4_init 22 = .ok (.aload_n 0, 1) := by decide +kernel
theorem dX4_init_23 : decode cX4_init 23 = .ok (.sipush 300, 3) := by decide +kernel
theorem dX4_init_26 : decode cX4_init 26 = .ok (.newarray .int, 2) := by decide +kernel
theorem dX4_init_28 : decode cX4_init 28 = .ok (.putfield 18, 3) := by decide +kernel
theorem dX4_init_31 : decode cX4_init 31 = .ok (.aload_n 0, 1) := by decide +kernel
theorem dX4_init_32 : decode cX4_init 32 = .ok (.iconst 0, 1) := by decide +kernel
theorem dX4_init_33 : decode cX4_init 33 = .ok (.putfield 21, 3) := by decide +kernel
theorem dX4_init_36 : decode cX4_init 36 = .ok (.aload_n 0, 1) := by decide +kernel
theorem dX4_init_37 : decode cX4_init 37 = .ok (.aload_n 1, 1) := by decide +kernel
theorem dX4_init_38 : decode cX4_init 38 = .ok (.putfield 25, 3) := by decide +kernel
theorem dX4_init_41 : decode cX4_init 41 = .ok (.return_, 1) := by decide +kernel
theorem dX4_loadAll_0 : decode cX4_loadAll 0 = .ok (.aload_n 0, 1) := by decide +kernel
theorem dX4_loadAll_1 : decode cX4_loadAll 1 = .ok (.getfield 25, 3) := by decide +kernel
theorem dX4_loadAll_4 : decode cX4_loadAll 4 = .ok (.getfield 29, 3) := by decide +kernel
theorem dX4_loadAll_7 : decode cX4_loadAll 7 = .ok (.iconst 0, 1) := by decide +kernel
theorem dX4_loadAll_8 : decode cX4_loadAll 8 = .ok (.aload_n 0, 1) := by decide +kernel
theorem dX4_loadAll_9 : decode cX4_loadAll 9 = .ok (.getfield 9, 3) := by decide +kernel
theorem dX4_loadAll_12 : decode cX4_loadAll 12 = .ok (.iconst 0, 1) := by decide +kernel
theorem dX4_loadAll_13 : decode cX4_loadAll 13 = .ok (.aload_n 0, 1) := by decide +kernel
theorem dX4_loadAll_14 : decode cX4_loadAll 14 = .ok (.getfield 9, 3) := by decide +kernel
theorem dX4_loadAll_17 : decode cX4_loadAll 17 = .ok (.arraylength, 1) := by decide +kernel
theorem dX4_loadAll_18 : decode cX4_loadAll 18 = .ok (.invokestatic 34, 3) := by decide +kernel
theorem dX4_loadAll_21 : decode cX4_loadAll 21 = .ok (.aload_n 0, 1) := by decide +kernel
theorem dX4_loadAll_22 : decode cX4_loadAll 22 = .ok (.aload_n 0, 1) := by decide +kernel
theorem dX4_loadAll_23 : decode cX4_loadAll 23 = .ok (.getfield 25, 3) := by decide +kernel
theorem dX4_loadAll_26 : decode cX4_loadAll 26 = .ok (.getfield 40, 3) := by decide +kernel
theorem dX4_loadAll_29 : decode cX4_loadAll 29 = .ok (.putfield 21, 3) := by decide +kernel
theorem dX4_loadAll_32 : decode cX4_loadAll 32 = .ok (.return_, 1) := by decide +kernel
theorem dX4_loadWithout_0 : decode cX4_loadWithout 0 = .ok (.aload_n 0, 1) := by decide +kernel
theorem dX4_loadWithout_1 : decode cX4_loadWithout 1 = .ok (.iconst 0, 1) := by decide +kernel
theorem dX4_loadWithout_2 : decode cX4_loadWithout 2 = .ok (.putfield 21, 3) := by decide +kernel
theorem dX4_loadWithout_5 : decode cX4_loadWithout 5 = .ok (.iconst 0, 1) := by decide +kernel
theorem dX4_loadWithout_6 : decode cX4_loadWithout 6 = .ok (.istore_n 3, 1) := by decide +kernel
theorem dX4_loadWithout_7 : decode cX4_loadWithout 7 = .ok (.iload_n 3, 1) := by decide +kernel
theorem dX4_loadWithout_8 : decode cX4_loadWithout 8 = .ok (.bipush 8, 2) := by decide +kernel
theorem dX4_loadWithout_10 : decode cX4_loadWithout 10 = .ok (.if_icmp .ge 94, 3) := by decide +kernel
theorem dX4_loadWithout_13 : decode cX4_loadWithout 13 = .ok (.iload_n 2, 1) := by decide +kernel
theorem dX4_loadWithout_14 : decode cX4_loadWithout 14 = .ok (.ifCond .le 90, 3) := by decide +kernel
theorem dX4_loadWithout_17 : decode cX4_loadWithout 17 = .ok (.iload_n 3, 1) := by decide +kernel
theorem dX4_loadWithout_18 : decode cX4_loadWithout 18 = .ok (.sipush 300, 3) := by decide +kernel
theorem dX4_loadWithout_21 : decode cX4_loadWithout 21 = .ok (.imul, 1) := by decide +kernel
theorem dX4_loadWithout_22 : decode cX4_loadWithout 22 = .ok (.istore 4, 2) := by decide +kernel
theorem dX4_loadWithout_24 : decode cX4_loadWithout 24 = .ok (.iload 4, 2) := by decide +kernel
theorem dX4_loadWithout_26 : decode cX4_loadWithout 26 = .ok (.istore 5, 2) := by decide +kernel
theorem dX4_loadWithout_28 : decode cX4_loadWithout 28 = .ok (.iload 4, 2) := by decide +kernel
theorem dX4_loadWithout_30 : decode cX4_loadWithout 30 = .ok (.istore 6, 2) := by decide +kernel
theorem dX4_loadWithout_32 : decode cX4_loadWithout 32 = .ok (.iload 6, 2) := by decide +kernel
theorem dX4_loadWithout_34 : decode cX4_loadWithout 34 = .ok (.iload 4, 2) := by decide +kernel
theorem dX4_loadWithout_36 : decode cX4_loadWithout 36 = .ok (.aload_n 0, 1) := by decide +kernel
theorem dX4_loadWithout_37 : decode cX4_loadWithout 37 = .ok (.getfield 25, 3) := by decide +kernel
theorem dX4_loadWithout_40 : decode cX4_loadWithout 40 = .ok (.getfield 40, 3) := by decide +kernel
theorem dX4_loadWithout_43 : decode cX4_loadWithout 43 = .ok (.iadd, 1) := by decide +kernel
theorem dX4_loadWithout_44 : decode cX4_loadWithout 44 = .ok (.if_icmp .ge 45, 3) := by decide +kernel
theorem dX4_loadWithout_89 : decode cX4_loadWithout 89 = .ok (.aload_n 0, 1) := by decide +kernel
theorem dX4_loadWithout_90 : decode cX4_loadWithout 90 = .ok (.iload 5, 2) := by decide +kernel
theorem dX4_loadWithout_92 : decode cX4_loadWithout 92 = .ok (.iload 4, 2) := by decide +kernel
theorem dX4_loadWithout_94 : decode cX4_loadWithout 94 = .ok (.isub, 1) := by decide +kernel
theorem dX4_loadWithout_95 : decode cX4_loadWithout 95 = .ok (.putfield 21, 3) := by decide +kernel
theorem dX4_loadWithout_98 : decode cX4_loadWithout 98 = .ok (.iinc 3 1, 3) := by decide +kernel
theorem dX4_loadWithout_101 : decode cX4_loadWithout 101 = .ok (.goto (-94), 3) := by decide +kernel
theorem dX4_loadWithout_104 : decode cX4_loadWithout 104 = .ok (.return_, 1) := by decide +kernel
theorem dX4_tally_0 : decode cX4_tally 0 = .ok (.aload_n 3, 1) := by decide +kernel
theorem dX4_tally_1 : decode cX4_tally 1 = .ok (.invokestatic 48, 3) := by decide +kernel
theorem dX4_tally_4 : decode cX4_tally 4 = .ok (.iload_n 1, 1) := by decide +kernel
theorem dX4_tally_5 : decode cX4_tally 5 = .ok (.istore 4, 2) := by decide +kernel
theorem dX4_tally_7 : decode cX4_tally 7 = .ok (.iload 4, 2) := by decide +kernel
theorem dX4_tally_9 : decode cX4_tally 9 = .ok (.iload_n 2, 1) := by decide +kernel
theorem dX4_tally_10 : decode cX4_tally 10 = .ok (.if_icmp .ge 30, 3) := by decide +kernel
theorem dX4_tally_40 : decode cX4_tally 40 = .ok (.return_, 1) := by decide +kernel
theorem dX4_setSides_0 : decode cX4_setSides 0 = .ok (.iload_n 2, 1) := by decide +kernel
theorem dX4_setSides_1 : decode cX4_setSides 1 = .ok (.istore 5, 2) := by decide +kernel
theorem dX4_setSides_3 : decode cX4_setSides 3 = .ok (.iload 5, 2) := by decide +kernel
theorem dX4_setSides_5 : decode cX4_setSides 5 = .ok (.iload_n 3, 1) := by decide +kernel
theorem dX4_setSides_6 : decode cX4_setSides 6 = .ok (.if_icmp .ge 23, 3) := by decide +kernel
theorem dX4_setSides_29 : decode cX4_setSides 29 = .ok (.return_, 1) := by decide +kernel
theorem dX5_init_0 : decode cX5_init 0 = .ok (.aload_n 0, 1) := by decide +kernel
theorem dX5_init_1 : decode cX5_init 1 = .ok (.invokespecial 3, 3) := by decide +kernel
theorem dX5_init_4 : decode cX5_init 4 = .ok (.aload_n 0, 1) := by decide +kernel
theorem dX5_init_5 : decode cX5_init 5 = .ok (.bipush 8, 2) := by decide +kernel
theorem dX5_init_7 : decode cX5_init 7 = .ok (.newarray .int, 2) := by decide +kernel
theorem dX5_init_9 : decode cX5_init 9 = .ok (.putfield 9, 3) := by decide +kernel
theorem dX5_init_12 : decode cX5_init 12 = .ok (.aload_n 0, 1) := by decide +kernel
theorem dX5_init_13 : decode cX5_init 13 = .ok (.bipush 8, 2) := by decide +kernel
theorem dX5_init_15 : decode cX5_init 15 = .ok (.newarray .int, 2) := by decide +kernel
theorem dX5_init_17 : decode cX5_init 17 = .ok (.putfield 15, 3) := by decide +kernel
theorem dX5_init_20 : decode cX5_init 20 = .ok (.aload_n 0, 1) := by decide +kernel
theorem dX5_init_21 : decode cX5_init 21 = .ok (.bipush 8, 2) := by decide +kernel
theorem dX5_init_23 : decode cX5_init 23 = .ok (.newarray .int, 2) := by decide +kernel
theorem dX5_init_25 : decode cX5_init 25 = .ok (.putfield 18, 3) := by decide +kernel
theorem dX5_init_28 : decode cX5_init 28 = .ok (.aload_n 0, 1) := by decide +kernel
theorem dX5_init_29 : decode cX5_init 29 = .ok (.bipush 8, 2) := by decide +kernel
theorem dX5_init_31 : decode cX5_init 31 = .ok (.newarray .int, 2) := by decide +kernel
theorem dX5_init_33 : decode cX5_init 33 = .ok (.putfield 21, 3) := by decide +kernel
theorem dX5_init_36 : decode cX5_init 36 = .ok (.aload_n 0, 1) := by decide +kernel
theorem dX5_init_37 : decode cX5_init 37 = .ok (.bipush 64, 2) := by decide +kernel
theorem dX5_init_39 : decode cX5_init 39 = .ok (.newarray .int, 2) := by decide +kernel
theorem dX5_init_41 : decode cX5_init 41 = .ok (.putfield 24, 3) := by decide +kernel
theorem dX5_init_44 : decode cX5_init 44 = .ok (.aload_n 0, 1) := by decide +kernel
theorem dX5_init_45 : decode cX5_init 45 = .ok (.bipush 8, 2) := by decide +kernel
theorem dX5_init_47 : decode cX5_init 47 = .ok (.newarray .boolean, 2) := by decide +kernel
theorem dX5_init_49 : decode cX5_init 49 = .ok (.putfield 27, 3) := by decide +kernel
theorem dX5_init_52 : decode cX5_init 52 = .ok (.aload_n 0, 1) := by decide +kernel
theorem dX5_init_53 : decode cX5_init 53 = .ok (.aload_n 1, 1) := by decide +kernel
theorem dX5_init_54 : decode cX5_init 54 = .ok (.putfield 31, 3) := by decide +kernel
theorem dX5_init_57 : decode cX5_init 57 = .ok (.return_, 1) := by decide +kernel
theorem dX6_init_0 : decode cX6_init 0 = .ok (.aload_n 0, 1) := by decide +kernel
theorem dX6_init_1 : decode cX6_init 1 = .ok (.invokespecial 3, 3) := by decide +kernel
theorem dX6_init_4 : decode cX6_init 4 = .ok (.aload_n 0, 1) := by decide +kernel
theorem dX6_init_5 : decode cX6_init 5 = .ok (.sipush 511, 3) := by decide +kernel
theorem dX6_init_8 : decode cX6_init 8 = .ok (.newarray .int, 2) := by decide +kernel
theorem dX6_init_10 : decode cX6_init 10 = .ok (.putfield 9, 3) := by decide +kernel
theorem dX6_init_13 : decode cX6_init 13 = .ok (.aload_n 0, 1) := by decide +kernel
theorem dX6_init_14 : decode cX6_init 14 = .ok (.sipush 511, 3) := by decide +kernel
theorem dX6_init_17 : decode cX6_init 17 = .ok (.newarray .int, 2) := by decide +kernel
theorem dX6_init_19 : decode cX6_init 19 = .ok (.putfield 15, 3) := by decide +kernel
theorem dX6_init_22 : decode cX6_init 22 = .ok (.aload_n 0, 1) := by decide +kernel
theorem dX6_init_23 : decode cX6_init 23 = .ok (.sipush 511, 3) := by decide +kernel
theorem dX6_init_26 : decode cX6_init 26 = .ok (.newarray .int, 2) := by decide +kernel
theorem dX6_init_28 : decode cX6_init 28 = .ok (.putfield 18, 3) := by decide +kernel
theorem dX6_init_31 : decode cX6_init 31 = .ok (.aload_n 0, 1) := by decide +kernel
theorem dX6_init_32 : decode cX6_init 32 = .ok (.sipush 511, 3) := by decide +kernel
theorem dX6_init_35 : decode cX6_init 35 = .ok (.newarray .int, 2) := by decide +kernel
theorem dX6_init_37 : decode cX6_init 37 = .ok (.putfield 21, 3) := by decide +kernel
theorem dX6_init_40 : decode cX6_init 40 = .ok (.aload_n 0, 1) := by decide +kernel
theorem dX6_init_41 : decode cX6_init 41 = .ok (.sipush 511, 3) := by decide +kernel
theorem dX6_init_44 : decode cX6_init 44 = .ok (.newarray .int, 2) := by decide +kernel
theorem dX6_init_46 : decode cX6_init 46 = .ok (.putfield 24, 3) := by decide +kernel
theorem dX6_init_49 : decode cX6_init 49 = .ok (.aload_n 0, 1) := by decide +kernel
theorem dX6_init_50 : decode cX6_init 50 = .ok (.sipush 2044, 3) := by decide +kernel
theorem dX6_init_53 : decode cX6_init 53 = .ok (.newarray .int, 2) := by decide +kernel
theorem dX6_init_55 : decode cX6_init 55 = .ok (.putfield 27, 3) := by decide +kernel
theorem dX6_init_58 : decode cX6_init 58 = .ok (.aload_n 0, 1) := by decide +kernel
theorem dX6_init_59 : decode cX6_init 59 = .ok (.iconst 0, 1) := by decide +kernel
theorem dX6_init_60 : decode cX6_init 60 = .ok (.putfield 30, 3) := by decide +kernel
theorem dX6_init_63 : decode cX6_init 63 = .ok (.return_, 1) := by decide +kernel
theorem dX6_open_0 : decode cX6_open 0 = .ok (.aload_n 0, 1) := by decide +kernel
theorem dX6_open_1 : decode cX6_open 1 = .ok (.getfield 30, 3) := by decide +kernel
theorem dX6_open_4 : decode cX6_open 4 = .ok (.sipush 511, 3) := by decide +kernel
theorem dX6_open_7 : decode cX6_open 7 = .ok (.if_icmp .lt 5, 3) := by decide +kernel
theorem dX6_open_12 : decode cX6_open 12 = .ok (.aload_n 0, 1) := by decide +kernel
theorem dX6_open_13 : decode cX6_open 13 = .ok (.getfield 30, 3) := by decide +kernel
theorem dX6_open_16 : decode cX6_open 16 = .ok (.istore 4, 2) := by decide +kernel
theorem dX6_open_18 : decode cX6_open 18 = .ok (.aload_n 0, 1) := by decide +kernel
theorem dX6_open_19 : decode cX6_open 19 = .ok (.getfield 9, 3) := by decide +kernel
theorem dX6_open_22 : decode cX6_open 22 = .ok (.iload 4, 2) := by decide +kernel
theorem dX6_open_24 : decode cX6_open 24 = .ok (.iconst (-1), 1) := by decide +kernel
theorem dX6_open_25 : decode cX6_open 25 = .ok (.iastore, 1) := by decide +kernel
theorem dX6_open_26 : decode cX6_open 26 = .ok (.aload_n 0, 1) := by decide +kernel
theorem dX6_open_27 : decode cX6_open 27 = .ok (.getfield 15, 3) := by decide +kernel
theorem dX6_open_30 : decode cX6_open 30 = .ok (.iload 4, 2) := by decide +kernel
theorem dX6_open_32 : decode cX6_open 32 = .ok (.iconst 0, 1) := by decide +kernel
theorem dX6_open_33 : decode cX6_open 33 = .ok (.iastore, 1) := by decide +kernel
theorem dX6_open_34 : decode cX6_open 34 = .ok (.aload_n 0, 1) := by decide +kernel
theorem dX6_open_35 : decode cX6_open 35 = .ok (.getfield 18, 3) := by decide +kernel
theorem dX6_open_38 : decode cX6_open 38 = .ok (.iload 4, 2) := by decide +kernel
theorem dX6_open_40 : decode cX6_open 40 = .ok (.iconst (-1), 1) := by decide +kernel
theorem dX6_open_41 : decode cX6_open 41 = .ok (.iastore, 1) := by decide +kernel
theorem dX6_open_42 : decode cX6_open 42 = .ok (.aload_n 0, 1) := by decide +kernel
theorem dX6_open_43 : decode cX6_open 43 = .ok (.getfield 21, 3) := by decide +kernel
theorem dX6_open_46 : decode cX6_open 46 = .ok (.iload 4, 2) := by decide +kernel
theorem dX6_open_48 : decode cX6_open 48 = .ok (.iconst 0, 1) := by decide +kernel
theorem dX6_open_49 : decode cX6_open 49 = .ok (.iastore, 1) := by decide +kernel
theorem dX6_open_50 : decode cX6_open 50 = .ok (.aload_n 0, 1) := by decide +kernel
theorem dX6_open_51 : decode cX6_open 51 = .ok (.getfield 24, 3) := by decide +kernel
theorem dX6_open_54 : decode cX6_open 54 = .ok (.iload 4, 2) := by decide +kernel
theorem dX6_open_56 : decode cX6_open 56 = .ok (.iload_n 1, 1) := by decide +kernel
theorem dX6_open_57 : decode cX6_open 57 = .ok (.iastore, 1) := by decide +kernel
theorem dX6_open_58 : decode cX6_open 58 = .ok (.aload_n 2, 1) := by decide +kernel
theorem dX6_open_59 : decode cX6_open 59 = .ok (.iload_n 3, 1) := by decide +kernel
theorem dX6_open_60 : decode cX6_open 60 = .ok (.aload_n 0, 1) := by decide +kernel
theorem dX6_open_61 : decode cX6_open 61 = .ok (.getfield 27, 3) := by decide +kernel
theorem dX6_open_64 : decode cX6_open 64 = .ok (.iload 4, 2) := by decide +kernel
theorem dX6_open_66 : decode cX6_open 66 = .ok (.iconst 4, 1) := by decide +kernel
theorem dX6_open_67 : decode cX6_open 67 = .ok (.imul, 1) := by decide +kernel
theorem dX6_open_68 : decode cX6_open 68 = .ok (.iconst 4, 1) := by decide +kernel
theorem dX6_open_69 : decode cX6_open 69 = .ok (.invokestatic 41, 3) := by decide +kernel
theorem dX6_open_72 : decode cX6_open 72 = .ok (.aload_n 0, 1) := by decide +kernel
theorem dX6_open_73 : decode cX6_open 73 = .ok (.dup, 1) := by decide +kernel
theorem dX6_open_74 : decode cX6_open 74 = .ok (.getfield 30, 3) := by decide +kernel
theorem dX6_open_77 : decode cX6_open 77 = .ok (.iconst 1, 1) := by decide +kernel
theorem dX6_open_78 : decode cX6_open 78 = .ok (.iadd, 1) := by decide +kernel
theorem dX6_open_79 : decode cX6_open 79 = .ok (.putfield 30, 3) := by decide +kernel
theorem dX6_open_82 : decode cX6_open 82 = .ok (.iload 4, 2) := by decide +kernel
theorem dX6_open_84 : decode cX6_open 84 = .ok (.ireturn, 1) := by decide +kernel
theorem dX7_init_0 : decode cX7_init 0 = .ok (.aload_n 0, 1) := by decide +kernel
theorem dX7_init_1 : decode cX7_init 1 = .ok (.invokespecial 3, 3) := by decide +kernel
theorem dX7_init_4 : decode cX7_init 4 = .ok (.aload_n 0, 1) := by decide +kernel
theorem dX7_init_5 : decode cX7_init 5 = .ok (.new 9, 3) := by decide +kernel
theorem dX7_init_8 : decode cX7_init 8 = .ok (.dup, 1) := by decide +kernel
theorem dX7_init_9 : decode cX7_init 9 = .ok (.invokespecial 11, 3) := by decide +kernel
theorem dX7_init_12 : decode cX7_init 12 = .ok (.putfield 12, 3) := by decide +kernel
theorem dX7_init_15 : decode cX7_init 15 = .ok (.aload_n 0, 1) := by decide +kernel
theorem dX7_init_16 : decode cX7_init 16 = .ok (.new 16, 3) := by decide +kernel
theorem dX7_init_19 : decode cX7_init 19 = .ok (.dup, 1) := by decide +kernel
theorem dX7_init_20 : decode cX7_init 20 = .ok (.aload_n 0, 1) := by decide +kernel
theorem dX7_init_21 : decode cX7_init 21 = .ok (.getfield 12, 3) := by decide +kernel
theorem dX7_init_24 : decode cX7_init 24 = .ok (.invokespecial 18, 3) := by decide +kernel
theorem dX7_init_27 : decode cX7_init 27 = .ok (.putfield 21, 3) := by decide +kernel
theorem dX7_init_30 : decode cX7_init 30 = .ok (.aload_n 0, 1) := by decide +kernel
theorem dX7_init_31 : decode cX7_init 31 = .ok (.new 25, 3) := by decide +kernel
theorem dX7_init_34 : decode cX7_init 34 = .ok (.dup, 1) := by decide +kernel
theorem dX7_init_35 : decode cX7_init 35 = .ok (.aload_n 0, 1) := by decide +kernel
theorem dX7_init_36 : decode cX7_init 36 = .ok (.getfield 12, 3) := by decide +kernel
theorem dX7_init_39 : decode cX7_init 39 = .ok (.aload_n 0, 1) := by decide +kernel
theorem dX7_init_40 : decode cX7_init 40 = .ok (.getfield 21, 3) := by decide +kernel
theorem dX7_init_43 : decode cX7_init 43 = .ok (.invokespecial 27, 3) := by decide +kernel
theorem dX7_init_46 : decode cX7_init 46 = .ok (.putfield 30, 3) := by decide +kernel
theorem dX7_init_49 : decode cX7_init 49 = .ok (.aload_n 0, 1) := by decide +kernel
theorem dX7_init_50 : decode cX7_init 50 = .ok (.new 34, 3) := by decide +kernel
theorem dX7_init_53 : decode cX7_init 53 = .ok (.dup, 1) := by decide +kernel
theorem dX7_init_54 : decode cX7_init 54 = .ok (.aload_n 0, 1) := by decide +kernel
theorem dX7_init_55 : decode cX7_init 55 = .ok (.getfield 12, 3) := by decide +kernel
theorem dX7_init_58 : decode cX7_init 58 = .ok (.aload_n 0, 1) := by decide +kernel
theorem dX7_init_59 : decode cX7_init 59 = .ok (.getfield 21, 3) := by decide +kernel
theorem dX7_init_62 : decode cX7_init 62 = .ok (.invokespecial 36, 3) := by decide +kernel
theorem dX7_init_65 : decode cX7_init 65 = .ok (.putfield 37, 3) := by decide +kernel
theorem dX7_init_68 : decode cX7_init 68 = .ok (.aload_n 0, 1) := by decide +kernel
theorem dX7_init_69 : decode cX7_init 69 = .ok (.new 41, 3) := by decide +kernel
theorem dX7_init_72 : decode cX7_init 72 = .ok (.dup, 1) := by decide +kernel
theorem dX7_init_73 : decode cX7_init 73 = .ok (.invokespecial 43, 3) := by decide +kernel
theorem dX7_init_76 : decode cX7_init 76 = .ok (.putfield 44, 3) := by decide +kernel
theorem dX7_init_79 : decode cX7_init 79 = .ok (.aload_n 0, 1) := by decide +kernel
theorem dX7_init_80 : decode cX7_init 80 = .ok (.new 48, 3) := by decide +kernel
theorem dX7_init_83 : decode cX7_init 83 = .ok (.dup, 1) := by decide +kernel
theorem dX7_init_84 : decode cX7_init 84 = .ok (.aload_n 0, 1) := by decide +kernel
theorem dX7_init_85 : decode cX7_init 85 = .ok (.getfield 12, 3) := by decide +kernel
theorem dX7_init_88 : decode cX7_init 88 = .ok (.getfield 50, 3) := by decide +kernel
theorem dX7_init_91 : decode cX7_init 91 = .ok (.invokespecial 54, 3) := by decide +kernel
theorem dX7_init_94 : decode cX7_init 94 = .ok (.putfield 57, 3) := by decide +kernel
theorem dX7_init_97 : decode cX7_init 97 = .ok (.aload_n 0, 1) := by decide +kernel
theorem dX7_init_98 : decode cX7_init 98 = .ok (.bipush 21, 2) := by decide +kernel
theorem dX7_init_100 : decode cX7_init 100 = .ok (.anewarray 61, 3) := by decide +kernel
theorem dX7_init_103 : decode cX7_init 103 = .ok (.putfield 63, 3) := by decide +kernel
theorem dX7_init_106 : decode cX7_init 106 = .ok (.aload_n 0, 1) := by decide +kernel
theorem dX7_init_107 : decode cX7_init 107 = .ok (.bipush 8, 2) := by decide +kernel
theorem dX7_init_109 : decode cX7_init 109 = .ok (.newarray .int, 2) := by decide +kernel
theorem dX7_init_111 : decode cX7_init 111 = .ok (.putfield 67, 3) := by decide +kernel
theorem dX7_init_114 : decode cX7_init 114 = .ok (.aload_n 0, 1) := by decide +kernel
theorem dX7_init_115 : decode cX7_init 115 = .ok (.bipush 8, 2) := by decide +kernel
theorem dX7_init_117 : decode cX7_init 117 = .ok (.newarray .int, 2) := by decide +kernel
theorem dX7_init_119 : decode cX7_init 119 = .ok (.putfield 70, 3) := by decide +kernel
theorem dX7_init_122 : decode cX7_init 122 = .ok (.aload_n 0, 1) := by decide +kernel
theorem dX7_init_123 : decode cX7_init 123 = .ok (.iconst 4, 1) := by decide +kernel
theorem dX7_init_124 : decode cX7_init 124 = .ok (.newarray .int, 2) := by decide +kernel
theorem dX7_init_126 : decode cX7_init 126 = .ok (.putfield 73, 3) := by decide +kernel
theorem dX7_init_129 : decode cX7_init 129 = .ok (.aload_n 0, 1) := by decide +kernel
theorem dX7_init_130 : decode cX7_init 130 = .ok (.iconst 0, 1) := by decide +kernel
theorem dX7_init_131 : decode cX7_init 131 = .ok (.putfield 76, 3) := by decide +kernel
theorem dX7_init_134 : decode cX7_init 134 = .ok (.aload_n 0, 1) := by decide +kernel
theorem dX7_init_135 : decode cX7_init 135 = .ok (.iconst (-1), 1) := by decide +kernel
theorem dX7_init_136 : decode cX7_init 136 = .ok (.putfield 80, 3) := by decide +kernel
theorem dX7_init_139 : decode cX7_init 139 = .ok (.aload_n 0, 1) := by decide +kernel
theorem dX7_init_140 : decode cX7_init 140 = .ok (.iconst (-1), 1) := by decide +kernel
theorem dX7_init_141 : decode cX7_init 141 = .ok (.putfield 83, 3) := by decide +kernel
theorem dX7_init_144 : decode cX7_init 144 = .ok (.aload_n 0, 1) := by decide +kernel
theorem dX7_init_145 : decode cX7_init 145 = .ok (.iconst 0, 1) := by decide +kernel
theorem dX7_init_146 : decode cX7_init 146 = .ok (.putfield 86, 3) := by decide +kernel
theorem dX7_init_149 : decode cX7_init 149 = .ok (.return_, 1) := by decide +kernel
theorem dX7_sort_0 : decode cX7_sort 0 = .ok (.iload_n 1, 1) := by decide +kernel
theorem dX7_sort_1 : decode cX7_sort 1 = .ok (.invokestatic 90, 3) := by decide +kernel
theorem dX7_sort_4 : decode cX7_sort 4 = .ok (.ifCond .eq 29, 3) := by decide +kernel
theorem dX7_sort_7 : decode cX7_sort 7 = .ok (.iload_n 2, 1) := by decide +kernel
theorem dX7_sort_8 : decode cX7_sort 8 = .ok (.ifCond .lt 25, 3) := by decide +kernel
theorem dX7_sort_11 : decode cX7_sort 11 = .ok (.iload_n 2, 1) := by decide +kernel
theorem dX7_sort_12 : decode cX7_sort 12 = .ok (.iconst 1, 1) := by decide +kernel
theorem dX7_sort_13 : decode cX7_sort 13 = .ok (.if_icmp .gt 20, 3) := by decide +kernel
theorem dX7_sort_16 : decode cX7_sort 16 = .ok (.aload_n 0, 1) := by decide +kernel
theorem dX7_sort_17 : decode cX7_sort 17 = .ok (.getfield 12, 3) := by decide +kernel
theorem dX7_sort_20 : decode cX7_sort 20 = .ok (.getfield 94, 3) := by decide +kernel
theorem dX7_sort_23 : decode cX7_sort 23 = .ok (.ifCond .gt 10, 3) := by decide +kernel
theorem dX7_sort_26 : decode cX7_sort 26 = .ok (.aload_n 0, 1) := by decide +kernel
theorem dX7_sort_27 : decode cX7_sort 27 = .ok (.getfield 76, 3) := by decide +kernel
theorem dX7_sort_30 : decode cX7_sort 30 = .ok (.ifCond .le 5, 3) := by decide +kernel
theorem dX7_sort_33 : decode cX7_sort 33 = .ok (.iconst (-1), 1) := by decide +kernel
theorem dX7_sort_34 : decode cX7_sort 34 = .ok (.ireturn, 1) := by decide +kernel
theorem dX7_sort_35 : decode cX7_sort 35 = .ok (.aload_n 0, 1) := by decide +kernel
theorem dX7_sort_36 : decode cX7_sort 36 = .ok (.getfield 12, 3) := by decide +kernel
theorem dX7_sort_39 : decode cX7_sort 39 = .ok (.getfield 50, 3) := by decide +kernel
theorem dX7_sort_42 : decode cX7_sort 42 = .ok (.iload_n 1, 1) := by decide +kernel
theorem dX7_sort_43 : decode cX7_sort 43 = .ok (.iaload, 1) := by decide +kernel
theorem dX7_sort_44 : decode cX7_sort 44 = .ok (.istore_n 3, 1) := by decide +kernel
theorem dX7_sort_45 : decode cX7_sort 45 = .ok (.aload_n 0, 1) := by decide +kernel
theorem dX7_sort_46 : decode cX7_sort 46 = .ok (.getfield 12, 3) := by decide +kernel
theorem dX7_sort_49 : decode cX7_sort 49 = .ok (.getfield 50, 3) := by decide +kernel
theorem dX7_sort_52 : decode cX7_sort 52 = .ok (.iload_n 1, 1) := by decide +kernel
theorem dX7_sort_53 : decode cX7_sort 53 = .ok (.iload_n 2, 1) := by decide +kernel
theorem dX7_sort_54 : decode cX7_sort 54 = .ok (.iastore, 1) := by decide +kernel
theorem dX7_sort_55 : decode cX7_sort 55 = .ok (.iload_n 3, 1) := by decide +kernel
theorem dX7_sort_56 : decode cX7_sort 56 = .ok (.ireturn, 1) := by decide +kernel
theorem dX7_add_0 : decode cX7_add 0 = .ok (.iload_n 1, 1) := by decide +kernel
theorem dX7_add_1 : decode cX7_add 1 = .ok (.invokestatic 97, 3) := by decide +kernel
theorem dX7_add_4 : decode cX7_add 4 = .ok (.ifCond .eq 16, 3) := by decide +kernel
theorem dX7_add_7 : decode cX7_add 7 = .ok (.aload_n 0, 1) := by decide +kernel
theorem dX7_add_8 : decode cX7_add 8 = .ok (.iload_n 2, 1) := by decide +kernel
theorem dX7_add_9 : decode cX7_add 9 = .ok (.iload_n 3, 1) := by decide +kernel
theorem dX7_add_10 : decode cX7_add 10 = .ok (.iload 4, 2) := by decide +kernel
theorem dX7_add_12 : decode cX7_add 12 = .ok (.iload 5, 2) := by decide +kernel
theorem dX7_add_14 : decode cX7_add 14 = .ok (.invokevirtual 100, 3) := by decide +kernel
theorem dX7_add_17 : decode cX7_add 17 = .ok (.ifCond .ne 5, 3) := by decide +kernel
theorem dX7_add_20 : decode cX7_add 20 = .ok (.iconst (-1), 1) := by decide +kernel
theorem dX7_add_21 : decode cX7_add 21 = .ok (.ireturn, 1) := by decide +kernel
theorem dX7_add_22 : decode cX7_add 22 = .ok (.aload_n 0, 1) := by decide +kernel
theorem dX7_add_23 : decode cX7_add 23 = .ok (.getfield 12, 3) := by decide +kernel
theorem dX7_add_26 : decode cX7_add 26 = .ok (.getfield 94, 3) := by decide +kernel
theorem dX7_add_29 : decode cX7_add 29 = .ok (.sipush 300, 3) := by decide +kernel
theorem dX7_add_32 : decode cX7_add 32 = .ok (.if_icmp .lt 6, 3) := by decide +kernel
theorem dX7_add_38 : decode cX7_add 38 = .ok (.aload_n 0, 1) := by decide +kernel
theorem dX7_add_39 : decode cX7_add 39 = .ok (.getfield 12, 3) := by decide +kernel
theorem dX7_add_42 : decode cX7_add 42 = .ok (.iload_n 1, 1) := by decide +kernel
theorem dX7_add_43 : decode cX7_add 43 = .ok (.aload_n 0, 1) := by decide +kernel
theorem dX7_add_44 : decode cX7_add 44 = .ok (.getfield 67, 3) := by decide +kernel
theorem dX7_add_47 : decode cX7_add 47 = .ok (.invokevirtual 104, 3) := by decide +kernel
theorem dX7_add_50 : decode cX7_add 50 = .ok (.aload_n 0, 1) := by decide +kernel
theorem dX7_add_51 : decode cX7_add 51 = .ok (.getfield 12, 3) := by decide +kernel
theorem dX7_add_54 : decode cX7_add 54 = .ok (.getfield 94, 3) := by decide +kernel
theorem dX7_add_57 : decode cX7_add 57 = .ok (.iconst 1, 1) := by decide +kernel
theorem dX7_add_58 : decode cX7_add 58 = .ok (.isub, 1) := by decide +kernel
theorem dX7_add_59 : decode cX7_add 59 = .ok (.ireturn, 1) := by decide +kernel
theorem dX7_drop_0 : decode cX7_drop 0 = .ok (.aload_n 0, 1) := by decide +kernel
theorem dX7_drop_1 : decode cX7_drop 1 = .ok (.iload_n 1, 1) := by decide +kernel
theorem dX7_drop_2 : decode cX7_drop 2 = .ok (.invokevirtual 108, 3) := by decide +kernel
theorem dX7_drop_5 : decode cX7_drop 5 = .ok (.ifCond .ne 5, 3) := by decide +kernel
theorem dX7_drop_8 : decode cX7_drop 8 = .ok (.iconst (-1), 1) := by decide +kernel
theorem dX7_drop_9 : decode cX7_drop 9 = .ok (.ireturn, 1) := by decide +kernel
theorem dX7_mark_0 : decode cX7_mark 0 = .ok (.aload_n 0, 1) := by decide +kernel
theorem dX7_mark_1 : decode cX7_mark 1 = .ok (.iload_n 1, 1) := by decide +kernel
theorem dX7_mark_2 : decode cX7_mark 2 = .ok (.invokevirtual 108, 3) := by decide +kernel
theorem dX7_mark_5 : decode cX7_mark 5 = .ok (.ifCond .eq 27, 3) := by decide +kernel
theorem dX7_mark_32 : decode cX7_mark 32 = .ok (.ldc 118, 2) := by decide +kernel
theorem dX7_mark_34 : decode cX7_mark 34 = .ok (.ireturn, 1) := by decide +kernel
theorem dX7_cls_0 : decode cX7_cls 0 = .ok (.aload_n 0, 1) := by decide +kernel
theorem dX7_cls_1 : decode cX7_cls 1 = .ok (.iload_n 1, 1) := by decide +kernel
theorem dX7_cls_2 : decode cX7_cls 2 = .ok (.invokevirtual 108, 3) := by decide +kernel
theorem dX7_cls_5 : decode cX7_cls 5 = .ok (.ifCond .eq 15, 3) := by decide +kernel
theorem dX7_cls_20 : decode cX7_cls 20 = .ok (.iconst (-1), 1) := by decide +kernel
theorem dX7_cls_21 : decode cX7_cls 21 = .ok (.ireturn, 1) := by decide +kernel
theorem dX7_grow_0 : decode cX7_grow 0 = .ok (.iload_n 1, 1) := by decide +kernel
theorem dX7_grow_1 : decode cX7_grow 1 = .ok (.iload_n 2, 1) := by decide +kernel
theorem dX7_grow_2 : decode cX7_grow 2 = .ok (.invokestatic 122, 3) := by decide +kernel
theorem dX7_grow_5 : decode cX7_grow 5 = .ok (.ifCond .ne 5, 3) := by decide +kernel
theorem dX7_grow_8 : decode cX7_grow 8 = .ok (.iconst (-1), 1) := by decide +kernel
theorem dX7_grow_9 : decode cX7_grow 9 = .ok (.ireturn, 1) := by decide +kernel
theorem dX7_grow_10 : decode cX7_grow 10 = .ok (.aload_n 0, 1) := by decide +kernel
theorem dX7_grow_11 : decode cX7_grow 11 = .ok (.getfield 76, 3) := by decide +kernel
theorem dX7_grow_14 : decode cX7_grow 14 = .ok (.bipush 20, 2) := by decide +kernel
theorem dX7_grow_16 : decode cX7_grow 16 = .ok (.if_icmp .lt 6, 3) := by decide +kernel
theorem dX7_grow_22 : decode cX7_grow 22 = .ok (.aload_n 0, 1) := by decide +kernel
theorem dX7_grow_23 : decode cX7_grow 23 = .ok (.getfield 21, 3) := by decide +kernel
theorem dX7_grow_26 : decode cX7_grow 26 = .ok (.invokevirtual 126, 3) := by decide +kernel
theorem dX7_grow_29 : decode cX7_grow 29 = .ok (.aload_n 0, 1) := by decide +kernel
theorem dX7_grow_30 : decode cX7_grow 30 = .ok (.getfield 30, 3) := by decide +kernel
theorem dX7_grow_33 : decode cX7_grow 33 = .ok (.aload_n 0, 1) := by decide +kernel
theorem dX7_grow_34 : decode cX7_grow 34 = .ok (.aload_n 0, 1) := by decide +kernel
theorem dX7_grow_35 : decode cX7_grow 35 = .ok (.getfield 76, 3) := by decide +kernel
theorem dX7_grow_38 : decode cX7_grow 38 = .ok (.invokevirtual 129, 3) := by decide +kernel
theorem dX7_grow_41 : decode cX7_grow 41 = .ok (.iload_n 1, 1) := by decide +kernel
theorem dX7_grow_42 : decode cX7_grow 42 = .ok (.iload_n 2, 1) := by decide +kernel
theorem dX7_grow_43 : decode cX7_grow 43 = .ok (.invokevirtual 133, 3) := by decide +kernel
theorem dX7_grow_46 : decode cX7_grow 46 = .ok (.aload_n 0, 1) := by decide +kernel
theorem dX7_grow_47 : decode cX7_grow 47 = .ok (.dup, 1) := by decide +kernel
theorem dX7_grow_48 : decode cX7_grow 48 = .ok (.getfield 76, 3) := by decide +kernel
theorem dX7_grow_51 : decode cX7_grow 51 = .ok (.iconst 1, 1) := by decide +kernel
theorem dX7_grow_52 : decode cX7_grow 52 = .ok (.iadd, 1) := by decide +kernel
theorem dX7_grow_53 : decode cX7_grow 53 = .ok (.putfield 76, 3) := by decide +kernel
theorem dX7_grow_56 : decode cX7_grow 56 = .ok (.aload_n 0, 1) := by decide +kernel
theorem dX7_grow_57 : decode cX7_grow 57 = .ok (.getfield 76, 3) := by decide +kernel
theorem dX7_grow_60 : decode cX7_grow 60 = .ok (.iconst 1, 1) := by decide +kernel
theorem dX7_grow_61 : decode cX7_grow 61 = .ok (.isub, 1) := by decide +kernel
theorem dX7_grow_62 : decode cX7_grow 62 = .ok (.ireturn, 1) := by decide +kernel
theorem dX7_best_0 : decode cX7_best 0 = .ok (.iload_n 1, 1) := by decide +kernel
theorem dX7_best_1 : decode cX7_best 1 = .ok (.ifCond .lt 8, 3) := by decide +kernel
theorem dX7_best_4 : decode cX7_best 4 = .ok (.iload_n 1, 1) := by decide +kernel
theorem dX7_best_5 : decode cX7_best 5 = .ok (.iconst 2, 1) := by decide +kernel
theorem dX7_best_6 : decode cX7_best 6 = .ok (.if_icmp .le 5, 3) := by decide +kernel
theorem dX7_best_9 : decode cX7_best 9 = .ok (.iconst (-1), 1) := by decide +kernel
theorem dX7_best_10 : decode cX7_best 10 = .ok (.ireturn, 1) := by decide +kernel
theorem dX7_best_11 : decode cX7_best 11 = .ok (.aload_n 0, 1) := by decide +kernel
theorem dX7_best_12 : decode cX7_best 12 = .ok (.getfield 12, 3) := by decide +kernel
theorem dX7_best_15 : decode cX7_best 15 = .ok (.getfield 94, 3) := by decide +kernel
theorem dX7_best_18 : decode cX7_best 18 = .ok (.bipush 50, 2) := by decide +kernel
theorem dX7_best_20 : decode cX7_best 20 = .ok (.if_icmp .le 6, 3) := by decide +kernel
theorem dX7_best_26 : decode cX7_best 26 = .ok (.aload_n 0, 1) := by decide +kernel
theorem dX7_best_27 : decode cX7_best 27 = .ok (.getfield 12, 3) := by decide +kernel
theorem dX7_best_30 : decode cX7_best 30 = .ok (.invokevirtual 137, 3) := by decide +kernel
theorem dX7_best_33 : decode cX7_best 33 = .ok (.ifCond .eq 6, 3) := by decide +kernel
theorem dX7_best_39 : decode cX7_best 39 = .ok (.aload_n 0, 1) := by decide +kernel
theorem dX7_best_40 : decode cX7_best 40 = .ok (.getfield 76, 3) := by decide +kernel
theorem dX7_best_43 : decode cX7_best 43 = .ok (.bipush 20, 2) := by decide +kernel
theorem dX7_best_45 : decode cX7_best 45 = .ok (.if_icmp .lt 6, 3) := by decide +kernel
theorem dX7_best_51 : decode cX7_best 51 = .ok (.aload_n 0, 1) := by decide +kernel
theorem dX7_best_52 : decode cX7_best 52 = .ok (.getfield 21, 3) := by decide +kernel
theorem dX7_best_55 : decode cX7_best 55 = .ok (.invokevirtual 126, 3) := by decide +kernel
theorem dX7_best_58 : decode cX7_best 58 = .ok (.aload_n 0, 1) := by decide +kernel
theorem dX7_best_59 : decode cX7_best 59 = .ok (.getfield 37, 3) := by decide +kernel
theorem dX7_best_62 : decode cX7_best 62 = .ok (.aload_n 0, 1) := by decide +kernel
theorem dX7_best_63 : decode cX7_best 63 = .ok (.aload_n 0, 1) := by decide +kernel
theorem dX7_best_64 : decode cX7_best 64 = .ok (.getfield 76, 3) := by decide +kernel
theorem dX7_best_67 : decode cX7_best 67 = .ok (.invokevirtual 129, 3) := by decide +kernel
theorem dX7_best_70 : decode cX7_best 70 = .ok (.iload_n 1, 1) := by decide +kernel
theorem dX7_best_71 : decode cX7_best 71 = .ok (.invokevirtual 141, 3) := by decide +kernel
theorem dX7_best_74 : decode cX7_best 74 = .ok (.aload_n 0, 1) := by decide +kernel
theorem dX7_best_75 : decode cX7_best 75 = .ok (.dup, 1) := by decide +kernel
theorem dX7_best_76 : decode cX7_best 76 = .ok (.getfield 76, 3) := by decide +kernel
theorem dX7_best_79 : decode cX7_best 79 = .ok (.iconst 1, 1) := by decide +kernel
theorem dX7_best_80 : decode cX7_best 80 = .ok (.iadd, 1) := by decide +kernel
theorem dX7_best_81 : decode cX7_best 81 = .ok (.putfield 76, 3) := by decide +kernel
theorem dX7_best_84 : decode cX7_best 84 = .ok (.aload_n 0, 1) := by decide +kernel
theorem dX7_best_85 : decode cX7_best 85 = .ok (.getfield 76, 3) := by decide +kernel
theorem dX7_best_88 : decode cX7_best 88 = .ok (.iconst 1, 1) := by decide +kernel
theorem dX7_best_89 : decode cX7_best 89 = .ok (.isub, 1) := by decide +kernel
theorem dX7_best_90 : decode cX7_best 90 = .ok (.ireturn, 1) := by decide +kernel
theorem dX7_cut_0 : decode cX7_cut 0 = .ok (.aload_n 0, 1) := by decide +kernel
theorem dX7_cut_1 : decode cX7_cut 1 = .ok (.iload_n 1, 1) := by decide +kernel
theorem dX7_cut_2 : decode cX7_cut 2 = .ok (.invokevirtual 145, 3) := by decide +kernel
theorem dX7_cut_5 : decode cX7_cut 5 = .ok (.astore 4, 2) := by decide +kernel
theorem dX7_cut_7 : decode cX7_cut 7 = .ok (.aload 4, 2) := by decide +kernel
theorem dX7_cut_9 : decode cX7_cut 9 = .ok (.ifnull 26, 3) := by decide +kernel
theorem dX7_cut_35 : decode cX7_cut 35 = .ok (.iconst (-1), 1) := by decide +kernel
theorem dX7_cut_36 : decode cX7_cut 36 = .ok (.ireturn, 1) := by decide +kernel
theorem dX7_price_0 : decode cX7_price 0 = .ok (.aload_n 0, 1) := by decide +kernel
theorem dX7_price_1 : decode cX7_price 1 = .ok (.iload_n 1, 1) := by decide +kernel
theorem dX7_price_2 : decode cX7_price 2 = .ok (.invokevirtual 145, 3) := by decide +kernel
theorem dX7_price_5 : decode cX7_price 5 = .ok (.astore_n 3, 1) := by decide +kernel
theorem dX7_price_6 : decode cX7_price 6 = .ok (.aload_n 3, 1) := by decide +kernel
theorem dX7_price_7 : decode cX7_price 7 = .ok (.ifnull 20, 3) := by decide +kernel
theorem dX7_price_27 : decode cX7_price 27 = .ok (.iconst (-1), 1) := by decide +kernel
theorem dX7_price_28 : decode cX7_price 28 = .ok (.ireturn, 1) := by decide +kernel
theorem dX7_folds_0 : decode cX7_folds 0 = .ok (.iload_n 1, 1) := by decide +kernel
theorem dX7_folds_1 : decode cX7_folds 1 = .ok (.iconst 2, 1) := by decide +kernel
theorem dX7_folds_2 : decode cX7_folds 2 = .ok (.if_icmp .lt 17, 3) := by decide +kernel
theorem dX7_folds_5 : decode cX7_folds 5 = .ok (.iload_n 1, 1) := by decide +kernel
theorem dX7_folds_6 : decode cX7_folds 6 = .ok (.bipush 10, 2) := by decide +kernel
theorem dX7_folds_8 : decode cX7_folds 8 = .ok (.if_icmp .gt 11, 3) := by decide +kernel
theorem dX7_folds_11 : decode cX7_folds 11 = .ok (.iload_n 2, 1) := by decide +kernel
theorem dX7_folds_12 : decode cX7_folds 12 = .ok (.iload_n 3, 1) := by decide +kernel
theorem dX7_folds_13 : decode cX7_folds 13 = .ok (.invokestatic 122, 3) := by decide +kernel
theorem dX7_folds_16 : decode cX7_folds 16 = .ok (.ifCond .ne 5, 3) := by decide +kernel
theorem dX7_folds_19 : decode cX7_folds 19 = .ok (.iconst (-1), 1) := by decide +kernel
theorem dX7_folds_20 : decode cX7_folds 20 = .ok (.ireturn, 1) := by decide +kernel
theorem dX7_folds_21 : decode cX7_folds 21 = .ok (.iconst 0, 1) := by decide +kernel
theorem dX7_folds_22 : decode cX7_folds 22 = .ok (.istore 4, 2) := by decide +kernel
theorem dX7_folds_24 : decode cX7_folds 24 = .ok (.iconst 0, 1) := by decide +kernel
theorem dX7_folds_25 : decode cX7_folds 25 = .ok (.istore 5, 2) := by decide +kernel
theorem dX7_folds_27 : decode cX7_folds 27 = .ok (.iload 5, 2) := by decide +kernel
theorem dX7_folds_29 : decode cX7_folds 29 = .ok (.iload_n 1, 1) := by decide +kernel
theorem dX7_folds_30 : decode cX7_folds 30 = .ok (.if_icmp .ge 76, 3) := by decide +kernel
theorem dX7_folds_33 : decode cX7_folds 33 = .ok (.aload_n 0, 1) := by decide +kernel
theorem dX7_folds_34 : decode cX7_folds 34 = .ok (.bipush 20, 2) := by decide +kernel
theorem dX7_folds_36 : decode cX7_folds 36 = .ok (.invokevirtual 129, 3) := by decide +kernel
theorem dX7_folds_39 : decode cX7_folds 39 = .ok (.astore 6, 2) := by decide +kernel
theorem dX7_folds_41 : decode cX7_folds 41 = .ok (.aload_n 0, 1) := by decide +kernel
theorem dX7_folds_42 : decode cX7_folds 42 = .ok (.getfield 21, 3) := by decide +kernel
theorem dX7_folds_45 : decode cX7_folds 45 = .ok (.iload 5, 2) := by decide +kernel
theorem dX7_folds_47 : decode cX7_folds 47 = .ok (.iload_n 1, 1) := by decide +kernel
theorem dX7_folds_48 : decode cX7_folds 48 = .ok (.invokevirtual 163, 3) := by decide +kernel
theorem dX7_folds_51 : decode cX7_folds 51 = .ok (.aload_n 0, 1) := by decide +kernel
theorem dX7_folds_52 : decode cX7_folds 52 = .ok (.getfield 30, 3) := by decide +kernel
theorem dX7_folds_55 : decode cX7_folds 55 = .ok (.aload 6, 2) := by decide +kernel
theorem dX7_folds_57 : decode cX7_folds 57 = .ok (.iload_n 2, 1) := by decide +kernel
theorem dX7_folds_58 : decode cX7_folds 58 = .ok (.iload_n 3, 1) := by decide +kernel
theorem dX7_folds_59 : decode cX7_folds 59 = .ok (.invokevirtual 133, 3) := by decide +kernel
theorem dX7_folds_62 : decode cX7_folds 62 = .ok (.iload 5, 2) := by decide +kernel
theorem dX7_folds_64 : decode cX7_folds 64 = .ok (.istore 7, 2) := by decide +kernel
theorem dX7_folds_66 : decode cX7_folds 66 = .ok (.iload 7, 2) := by decide +kernel
theorem dX7_folds_68 : decode cX7_folds 68 = .ok (.aload_n 0, 1) := by decide +kernel
theorem dX7_folds_69 : decode cX7_folds 69 = .ok (.getfield 12, 3) := by decide +kernel
theorem dX7_folds_72 : decode cX7_folds 72 = .ok (.getfield 94, 3) := by decide +kernel
theorem dX7_folds_75 : decode cX7_folds 75 = .ok (.if_icmp .ge 25, 3) := by decide +kernel
theorem dX7_folds_100 : decode cX7_folds 100 = .ok (.iinc 5 1, 3) := by decide +kernel
theorem dX7_folds_103 : decode cX7_folds 103 = .ok (.goto (-76), 3) := by decide +kernel
theorem dX7_folds_106 : decode cX7_folds 106 = .ok (.iload 4, 2) := by decide +kernel
theorem dX7_folds_108 : decode cX7_folds 108 = .ok (.ireturn, 1) := by decide +kernel
theorem dX7_remove_0 : decode cX7_remove 0 = .ok (.aload_n 0, 1) := by decide +kernel
theorem dX7_remove_1 : decode cX7_remove 1 = .ok (.getfield 76, 3) := by decide +kernel
theorem dX7_remove_4 : decode cX7_remove 4 = .ok (.ifCond .ne 5, 3) := by decide +kernel
theorem dX7_remove_7 : decode cX7_remove 7 = .ok (.iconst (-1), 1) := by decide +kernel
theorem dX7_remove_8 : decode cX7_remove 8 = .ok (.ireturn, 1) := by decide +kernel
theorem dX7_tree_0 : decode cX7_tree 0 = .ok (.aload_n 0, 1) := by decide +kernel
theorem dX7_tree_1 : decode cX7_tree 1 = .ok (.iload_n 1, 1) := by decide +kernel
theorem dX7_tree_2 : decode cX7_tree 2 = .ok (.invokevirtual 145, 3) := by decide +kernel
theorem dX7_tree_5 : decode cX7_tree 5 = .ok (.astore_n 3, 1) := by decide +kernel
theorem dX7_tree_6 : decode cX7_tree 6 = .ok (.aload_n 3, 1) := by decide +kernel
theorem dX7_tree_7 : decode cX7_tree 7 = .ok (.ifnonnull 5, 3) := by decide +kernel
theorem dX7_tree_10 : decode cX7_tree 10 = .ok (.iconst (-1), 1) := by decide +kernel
theorem dX7_tree_11 : decode cX7_tree 11 = .ok (.ireturn, 1) := by decide +kernel
theorem dX7_node_0 : decode cX7_node 0 = .ok (.aload_n 0, 1) := by decide +kernel
theorem dX7_node_1 : decode cX7_node 1 = .ok (.iload_n 1, 1) := by decide +kernel
theorem dX7_node_2 : decode cX7_node 2 = .ok (.invokevirtual 145, 3) := by decide +kernel
theorem dX7_node_5 : decode cX7_node 5 = .ok (.astore 4, 2) := by decide +kernel
theorem dX7_node_7 : decode cX7_node 7 = .ok (.aload 4, 2) := by decide +kernel
theorem dX7_node_9 : decode cX7_node 9 = .ok (.ifnull 12, 3) := by decide +kernel
theorem dX7_node_21 : decode cX7_node 21 = .ok (.iconst (-1), 1) := by decide +kernel
theorem dX7_node_22 : decode cX7_node 22 = .ok (.ireturn, 1) := by decide +kernel
theorem dX7_share_0 : decode cX7_share 0 = .ok (.aload_n 0, 1) := by decide +kernel
theorem dX7_share_1 : decode cX7_share 1 = .ok (.iload_n 1, 1) := by decide +kernel
theorem dX7_share_2 : decode cX7_share 2 = .ok (.invokevirtual 145, 3) := by decide +kernel
theorem dX7_share_5 : decode cX7_share 5 = .ok (.astore 4, 2) := by decide +kernel
theorem dX7_share_7 : decode cX7_share 7 = .ok (.aload 4, 2) := by decide +kernel
theorem dX7_share_9 : decode cX7_share 9 = .ok (.ifnull 19, 3) := by decide +kernel
theorem dX7_share_28 : decode cX7_share 28 = .ok (.iconst (-1), 1) := by decide +kernel
theorem dX7_share_29 : decode cX7_share 29 = .ok (.ireturn, 1) := by decide +kernel
theorem dX7_say_0 : decode cX7_say 0 = .ok (.aload_n 0, 1) := by decide +kernel
theorem dX7_say_1 : decode cX7_say 1 = .ok (.iload_n 1, 1) := by decide +kernel
theorem dX7_say_2 : decode cX7_say 2 = .ok (.invokevirtual 145, 3) := by decide +kernel
theorem dX7_say_5 : decode cX7_say 5 = .ok (.astore 6, 2) := by decide +kernel
theorem dX7_say_7 : decode cX7_say 7 = .ok (.aload 6, 2) := by decide +kernel
theorem dX7_say_9 : decode cX7_say 9 = .ok (.ifnull 16, 3) := by decide +kernel
theorem dX7_say_25 : decode cX7_say 25 = .ok (.iconst (-1), 1) := by decide +kernel
theorem dX7_say_26 : decode cX7_say 26 = .ok (.ireturn, 1) := by decide +kernel
theorem dX7_said_0 : decode cX7_said 0 = .ok (.aload_n 0, 1) := by decide +kernel
theorem dX7_said_1 : decode cX7_said 1 = .ok (.getfield 80, 3) := by decide +kernel
theorem dX7_said_4 : decode cX7_said 4 = .ok (.ireturn, 1) := by decide +kernel
theorem dX7_vote_0 : decode cX7_vote 0 = .ok (.aload_n 0, 1) := by decide +kernel
theorem dX7_vote_1 : decode cX7_vote 1 = .ok (.getfield 76, 3) := by decide +kernel
theorem dX7_vote_4 : decode cX7_vote 4 = .ok (.ifCond .eq 15, 3) := by decide +kernel
theorem dX7_vote_19 : decode cX7_vote 19 = .ok (.iconst (-1), 1) := by decide +kernel
theorem dX7_vote_20 : decode cX7_vote 20 = .ok (.ireturn, 1) := by decide +kernel
theorem dX7_voices_0 : decode cX7_voices 0 = .ok (.aload_n 0, 1) := by decide +kernel
theorem dX7_voices_1 : decode cX7_voices 1 = .ok (.getfield 83, 3) := by decide +kernel
theorem dX7_voices_4 : decode cX7_voices 4 = .ok (.ireturn, 1) := by decide +kernel
theorem dX7_rule_0 : decode cX7_rule 0 = .ok (.aload_n 0, 1) := by decide +kernel
theorem dX7_rule_1 : decode cX7_rule 1 = .ok (.iload_n 1, 1) := by decide +kernel
theorem dX7_rule_2 : decode cX7_rule 2 = .ok (.invokevirtual 145, 3) := by decide +kernel
theorem dX7_rule_5 : decode cX7_rule 5 = .ok (.astore 5, 2) := by decide +kernel
theorem dX7_rule_7 : decode cX7_rule 7 = .ok (.aload 5, 2) := by decide +kernel
theorem dX7_rule_9 : decode cX7_rule 9 = .ok (.ifnull 39, 3) := by decide +kernel
theorem dX7_rule_48 : decode cX7_rule 48 = .ok (.ldc 118, 2) := by decide +kernel
theorem dX7_rule_50 : decode cX7_rule 50 = .ok (.ireturn, 1) := by decide +kernel
theorem dX7_near_0 : decode cX7_near 0 = .ok (.aload_n 0, 1) := by decide +kernel
theorem dX7_near_1 : decode cX7_near 1 = .ok (.iload_n 1, 1) := by decide +kernel
theorem dX7_near_2 : decode cX7_near 2 = .ok (.invokevirtual 145, 3) := by decide +kernel
theorem dX7_near_5 : decode cX7_near 5 = .ok (.astore 6, 2) := by decide +kernel
theorem dX7_near_7 : decode cX7_near 7 = .ok (.aload 6, 2) := by decide +kernel
theorem dX7_near_9 : decode cX7_near 9 = .ok (.ifnull 23, 3) := by decide +kernel
theorem dX7_near_32 : decode cX7_near 32 = .ok (.iconst (-1), 1) := by decide +kernel
theorem dX7_near_33 : decode cX7_near 33 = .ok (.ireturn, 1) := by decide +kernel
theorem dX7_turned_0 : decode cX7_turned 0 = .ok (.iload_n 1, 1) := by decide +kernel
theorem dX7_turned_1 : decode cX7_turned 1 = .ok (.invokestatic 90, 3) := by decide +kernel
theorem dX7_turned_4 : decode cX7_turned 4 = .ok (.ifCond .eq 19, 3) := by decide +kernel
theorem dX7_turned_7 : decode cX7_turned 7 = .ok (.aload_n 0, 1) := by decide +kernel
theorem dX7_turned_8 : decode cX7_turned 8 = .ok (.getfield 86, 3) := by decide +kernel
theorem dX7_turned_11 : decode cX7_turned 11 = .ok (.ifCond .eq 12, 3) := by decide +kernel
theorem dX7_turned_23 : decode cX7_turned 23 = .ok (.ldc 118, 2) := by decide +kernel
theorem dX7_turned_25 : decode cX7_turned 25 = .ok (.ireturn, 1) := by decide +kernel
theorem dX7_count_0 : decode cX7_count 0 = .ok (.iload_n 1, 1) := by decide +kernel
theorem dX7_count_1 : decode cX7_count 1 = .ok (.lookupswitch 40 #[(0, 27), (1, 35)], 27) := by decide +kernel
theorem dX7_count_28 : decode cX7_count 28 = .ok (.aload_n 0, 1) := by decide +kernel
theorem dX7_count_29 : decode cX7_count 29 = .ok (.getfield 12, 3) := by decide +kernel
theorem dX7_count_32 : decode cX7_count 32 = .ok (.getfield 94, 3) := by decide +kernel
theorem dX7_count_35 : decode cX7_count 35 = .ok (.ireturn, 1) := by decide +kernel
theorem dX7_count_36 : decode cX7_count 36 = .ok (.aload_n 0, 1) := by decide +kernel
theorem dX7_count_37 : decode cX7_count 37 = .ok (.getfield 76, 3) := by decide +kernel
theorem dX7_count_40 : decode cX7_count 40 = .ok (.ireturn, 1) := by decide +kernel
theorem dX7_count_41 : decode cX7_count 41 = .ok (.iconst (-1), 1) := by decide +kernel
theorem dX7_count_42 : decode cX7_count 42 = .ok (.ireturn, 1) := by decide +kernel
theorem dX7_isCase_0 : decode cX7_isCase 0 = .ok (.iload_n 1, 1) := by decide +kernel
theorem dX7_isCase_1 : decode cX7_isCase 1 = .ok (.ifCond .lt 18, 3) := by decide +kernel
theorem dX7_isCase_4 : decode cX7_isCase 4 = .ok (.iload_n 1, 1) := by decide +kernel
theorem dX7_isCase_5 : decode cX7_isCase 5 = .ok (.aload_n 0, 1) := by decide +kernel
theorem dX7_isCase_6 : decode cX7_isCase 6 = .ok (.getfield 12, 3) := by decide +kernel
theorem dX7_isCase_9 : decode cX7_isCase 9 = .ok (.getfield 94, 3) := by decide +kernel
theorem dX7_isCase_12 : decode cX7_isCase 12 = .ok (.if_icmp .ge 7, 3) := by decide +kernel
theorem dX7_isCase_19 : decode cX7_isCase 19 = .ok (.iconst 0, 1) := by decide +kernel
theorem dX7_isCase_20 : decode cX7_isCase 20 = .ok (.ireturn, 1) := by decide +kernel
theorem dX7_isMark_0 : decode cX7_isMark 0 = .ok (.iload_n 0, 1) := by decide +kernel
theorem dX7_isMark_1 : decode cX7_isMark 1 = .ok (.ifCond .lt 13, 3) := by decide +kernel
theorem dX7_isMark_4 : decode cX7_isMark 4 = .ok (.iload_n 0, 1) := by decide +kernel
theorem dX7_isMark_5 : decode cX7_isMark 5 = .ok (.bipush 8, 2) := by decide +kernel
theorem dX7_isMark_7 : decode cX7_isMark 7 = .ok (.if_icmp .ge 7, 3) := by decide +kernel
theorem dX7_isMark_10 : decode cX7_isMark 10 = .ok (.iconst 1, 1) := by decide +kernel
theorem dX7_isMark_11 : decode cX7_isMark 11 = .ok (.goto 4, 3) := by decide +kernel
theorem dX7_isMark_14 : decode cX7_isMark 14 = .ok (.iconst 0, 1) := by decide +kernel
theorem dX7_isMark_15 : decode cX7_isMark 15 = .ok (.ireturn, 1) := by decide +kernel
theorem dX7_isClass_0 : decode cX7_isClass 0 = .ok (.iload_n 0, 1) := by decide +kernel
theorem dX7_isClass_1 : decode cX7_isClass 1 = .ok (.ifCond .lt 12, 3) := by decide +kernel
theorem dX7_isClass_4 : decode cX7_isClass 4 = .ok (.iload_n 0, 1) := by decide +kernel
theorem dX7_isClass_5 : decode cX7_isClass 5 = .ok (.iconst 4, 1) := by decide +kernel
theorem dX7_isClass_6 : decode cX7_isClass 6 = .ok (.if_icmp .ge 7, 3) := by decide +kernel
theorem dX7_isClass_9 : decode cX7_isClass 9 = .ok (.iconst 1, 1) := by decide +kernel
theorem dX7_isClass_10 : decode cX7_isClass 10 = .ok (.goto 4, 3) := by decide +kernel
theorem dX7_isClass_13 : decode cX7_isClass 13 = .ok (.iconst 0, 1) := by decide +kernel
theorem dX7_isClass_14 : decode cX7_isClass 14 = .ok (.ireturn, 1) := by decide +kernel
theorem dX7_canGrow_0 : decode cX7_canGrow 0 = .ok (.iload_n 0, 1) := by decide +kernel
theorem dX7_canGrow_1 : decode cX7_canGrow 1 = .ok (.ifCond .lt 24, 3) := by decide +kernel
theorem dX7_canGrow_4 : decode cX7_canGrow 4 = .ok (.iload_n 0, 1) := by decide +kernel
theorem dX7_canGrow_5 : decode cX7_canGrow 5 = .ok (.bipush 8, 2) := by decide +kernel
theorem dX7_canGrow_7 : decode cX7_canGrow 7 = .ok (.if_icmp .gt 18, 3) := by decide +kernel
theorem dX7_canGrow_10 : decode cX7_canGrow 10 = .ok (.iload_n 1, 1) := by decide +kernel
theorem dX7_canGrow_11 : decode cX7_canGrow 11 = .ok (.iconst 1, 1) := by decide +kernel
theorem dX7_canGrow_12 : decode cX7_canGrow 12 = .ok (.if_icmp .lt 13, 3) := by decide +kernel
theorem dX7_canGrow_15 : decode cX7_canGrow 15 = .ok (.iload_n 1, 1) := by decide +kernel
theorem dX7_canGrow_16 : decode cX7_canGrow 16 = .ok (.bipush 100, 2) := by decide +kernel
theorem dX7_canGrow_18 : decode cX7_canGrow 18 = .ok (.if_icmp .gt 7, 3) := by decide +kernel
theorem dX7_canGrow_21 : decode cX7_canGrow 21 = .ok (.iconst 1, 1) := by decide +kernel
theorem dX7_canGrow_22 : decode cX7_canGrow 22 = .ok (.goto 4, 3) := by decide +kernel
theorem dX7_canGrow_25 : decode cX7_canGrow 25 = .ok (.iconst 0, 1) := by decide +kernel
theorem dX7_canGrow_26 : decode cX7_canGrow 26 = .ok (.ireturn, 1) := by decide +kernel
theorem dX7_treeAt_0 : decode cX7_treeAt 0 = .ok (.iload_n 1, 1) := by decide +kernel
theorem dX7_treeAt_1 : decode cX7_treeAt 1 = .ok (.ifCond .lt 20, 3) := by decide +kernel
theorem dX7_treeAt_4 : decode cX7_treeAt 4 = .ok (.iload_n 1, 1) := by decide +kernel
theorem dX7_treeAt_5 : decode cX7_treeAt 5 = .ok (.aload_n 0, 1) := by decide +kernel
theorem dX7_treeAt_6 : decode cX7_treeAt 6 = .ok (.getfield 76, 3) := by decide +kernel
theorem dX7_treeAt_9 : decode cX7_treeAt 9 = .ok (.if_icmp .ge 12, 3) := by decide +kernel
theorem dX7_treeAt_21 : decode cX7_treeAt 21 = .ok (.aconst_null, 1) := by decide +kernel
theorem dX7_treeAt_22 : decode cX7_treeAt 22 = .ok (.areturn, 1) := by decide +kernel
theorem dX7_placeFor_0 : decode cX7_placeFor 0 = .ok (.aload_n 0, 1) := by decide +kernel
theorem dX7_placeFor_1 : decode cX7_placeFor 1 = .ok (.getfield 63, 3) := by decide +kernel
theorem dX7_placeFor_4 : decode cX7_placeFor 4 = .ok (.iload_n 1, 1) := by decide +kernel
theorem dX7_placeFor_5 : decode cX7_placeFor 5 = .ok (.aaload, 1) := by decide +kernel
theorem dX7_placeFor_6 : decode cX7_placeFor 6 = .ok (.astore_n 2, 1) := by decide +kernel
theorem dX7_placeFor_7 : decode cX7_placeFor 7 = .ok (.aload_n 2, 1) := by decide +kernel
theorem dX7_placeFor_8 : decode cX7_placeFor 8 = .ok (.ifnonnull 18, 3) := by decide +kernel
theorem dX7_placeFor_11 : decode cX7_placeFor 11 = .ok (.new 61, 3) := by decide +kernel
theorem dX7_placeFor_14 : decode cX7_placeFor 14 = .ok (.dup, 1) := by decide +kernel
theorem dX7_placeFor_15 : decode cX7_placeFor 15 = .ok (.invokespecial 253, 3) := by decide +kernel
theorem dX7_placeFor_18 : decode cX7_placeFor 18 = .ok (.astore_n 2, 1) := by decide +kernel
theorem dX7_placeFor_19 : decode cX7_placeFor 19 = .ok (.aload_n 0, 1) := by decide +kernel
theorem dX7_placeFor_20 : decode cX7_placeFor 20 = .ok (.getfield 63, 3) := by decide +kernel
theorem dX7_placeFor_23 : decode cX7_placeFor 23 = .ok (.iload_n 1, 1) := by decide +kernel
theorem dX7_placeFor_24 : decode cX7_placeFor 24 = .ok (.aload_n 2, 1) := by decide +kernel
theorem dX7_placeFor_25 : decode cX7_placeFor 25 = .ok (.aastore, 1) := by decide +kernel
theorem dX7_placeFor_26 : decode cX7_placeFor 26 = .ok (.aload_n 2, 1) := by decide +kernel
theorem dX7_placeFor_27 : decode cX7_placeFor 27 = .ok (.iconst 0, 1) := by decide +kernel
theorem dX7_placeFor_28 : decode cX7_placeFor 28 = .ok (.putfield 152, 3) := by decide +kernel
theorem dX7_placeFor_31 : decode cX7_placeFor 31 = .ok (.aload_n 2, 1) := by decide +kernel
theorem dX7_placeFor_32 : decode cX7_placeFor 32 = .ok (.areturn, 1) := by decide +kernel
theorem dX7_readTold_0 : decode cX7_readTold 0 = .ok (.aload_n 0, 1) := by decide +kernel
theorem dX7_readTold_1 : decode cX7_readTold 1 = .ok (.iconst 0, 1) := by decide +kernel
theorem dX7_readTold_2 : decode cX7_readTold 2 = .ok (.iload_n 1, 1) := by decide +kernel
theorem dX7_readTold_3 : decode cX7_readTold 3 = .ok (.invokevirtual 254, 3) := by decide +kernel
theorem dX7_readTold_6 : decode cX7_readTold 6 = .ok (.aload_n 0, 1) := by decide +kernel
theorem dX7_readTold_7 : decode cX7_readTold 7 = .ok (.iconst 2, 1) := by decide +kernel
theorem dX7_readTold_8 : decode cX7_readTold 8 = .ok (.iload_n 2, 1) := by decide +kernel
theorem dX7_readTold_9 : decode cX7_readTold 9 = .ok (.invokevirtual 254, 3) := by decide +kernel
theorem dX7_readTold_12 : decode cX7_readTold 12 = .ok (.aload_n 0, 1) := by decide +kernel
theorem dX7_readTold_13 : decode cX7_readTold 13 = .ok (.iconst 4, 1) := by decide +kernel
theorem dX7_readTold_14 : decode cX7_readTold 14 = .ok (.iload_n 3, 1) := by decide +kernel
theorem dX7_readTold_15 : decode cX7_readTold 15 = .ok (.invokevirtual 254, 3) := by decide +kernel
theorem dX7_readTold_18 : decode cX7_readTold 18 = .ok (.aload_n 0, 1) := by decide +kernel
theorem dX7_readTold_19 : decode cX7_readTold 19 = .ok (.bipush 6, 2) := by decide +kernel
theorem dX7_readTold_21 : decode cX7_readTold 21 = .ok (.iload 4, 2) := by decide +kernel
theorem dX7_readTold_23 : decode cX7_readTold 23 = .ok (.invokevirtual 254, 3) := by decide +kernel
theorem dX7_readTold_26 : decode cX7_readTold 26 = .ok (.iconst 0, 1) := by decide +kernel
theorem dX7_readTold_27 : decode cX7_readTold 27 = .ok (.istore 5, 2) := by decide +kernel
theorem dX7_readTold_29 : decode cX7_readTold 29 = .ok (.iload 5, 2) := by decide +kernel
theorem dX7_readTold_31 : decode cX7_readTold 31 = .ok (.bipush 8, 2) := by decide +kernel
theorem dX7_readTold_33 : decode cX7_readTold 33 = .ok (.if_icmp .ge 62, 3) := by decide +kernel
theorem dX7_readTold_36 : decode cX7_readTold 36 = .ok (.aload_n 0, 1) := by decide +kernel
theorem dX7_readTold_37 : decode cX7_readTold 37 = .ok (.getfield 67, 3) := by decide +kernel
theorem dX7_readTold_40 : decode cX7_readTold 40 = .ok (.iload 5, 2) := by decide +kernel
theorem dX7_readTold_42 : decode cX7_readTold 42 = .ok (.iaload, 1) := by decide +kernel
theorem dX7_readTold_43 : decode cX7_readTold 43 = .ok (.sipush (-1000), 3) := by decide +kernel
theorem dX7_readTold_46 : decode cX7_readTold 46 = .ok (.if_icmp .lt 20, 3) := by decide +kernel
theorem dX7_readTold_49 : decode cX7_readTold 49 = .ok (.aload_n 0, 1) := by decide +kernel
theorem dX7_readTold_50 : decode cX7_readTold 50 = .ok (.getfield 67, 3) := by decide +kernel
theorem dX7_readTold_53 : decode cX7_readTold 53 = .ok (.iload 5, 2) := by decide +kernel
theorem dX7_readTold_55 : decode cX7_readTold 55 = .ok (.iaload, 1) := by decide +kernel
theorem dX7_readTold_56 : decode cX7_readTold 56 = .ok (.sipush 1000, 3) := by decide +kernel
theorem dX7_readTold_59 : decode cX7_readTold 59 = .ok (.if_icmp .gt 7, 3) := by decide +kernel
theorem dX7_readTold_62 : decode cX7_readTold 62 = .ok (.iconst 1, 1) := by decide +kernel
theorem dX7_readTold_63 : decode cX7_readTold 63 = .ok (.goto 4, 3) := by decide +kernel
theorem dX7_readTold_66 : decode cX7_readTold 66 = .ok (.iconst 0, 1) := by decide +kernel
theorem dX7_readTold_67 : decode cX7_readTold 67 = .ok (.istore 6, 2) := by decide +kernel
theorem dX7_readTold_69 : decode cX7_readTold 69 = .ok (.iload 6, 2) := by decide +kernel
theorem dX7_readTold_71 : decode cX7_readTold 71 = .ok (.ifCond .ne 18, 3) := by decide +kernel
theorem dX7_readTold_74 : decode cX7_readTold 74 = .ok (.aload_n 0, 1) := by decide +kernel
theorem dX7_readTold_75 : decode cX7_readTold 75 = .ok (.getfield 67, 3) := by decide +kernel
theorem dX7_readTold_78 : decode cX7_readTold 78 = .ok (.iload 5, 2) := by decide +kernel
theorem dX7_readTold_80 : decode cX7_readTold 80 = .ok (.iaload, 1) := by decide +kernel
theorem dX7_readTold_81 : decode cX7_readTold 81 = .ok (.sipush (-32768), 3) := by decide +kernel
theorem dX7_readTold_84 : decode cX7_readTold 84 = .ok (.if_icmp .eq 5, 3) := by decide +kernel
theorem dX7_readTold_87 : decode cX7_readTold 87 = .ok (.iconst 0, 1) := by decide +kernel
theorem dX7_readTold_88 : decode cX7_readTold 88 = .ok (.ireturn, 1) := by decide +kernel
theorem dX7_readTold_89 : decode cX7_readTold 89 = .ok (.iinc 5 1, 3) := by decide +kernel
theorem dX7_readTold_92 : decode cX7_readTold 92 = .ok (.goto (-63), 3) := by decide +kernel
theorem dX7_readTold_95 : decode cX7_readTold 95 = .ok (.iconst 1, 1) := by decide +kernel
theorem dX7_readTold_96 : decode cX7_readTold 96 = .ok (.ireturn, 1) := by decide +kernel
theorem dX7_readPair_0 : decode cX7_readPair 0 = .ok (.aload_n 0, 1) := by decide +kernel
theorem dX7_readPair_1 : decode cX7_readPair 1 = .ok (.getfield 67, 3) := by decide +kernel
theorem dX7_readPair_4 : decode cX7_readPair 4 = .ok (.iload_n 1, 1) := by decide +kernel
theorem dX7_readPair_5 : decode cX7_readPair 5 = .ok (.iload_n 2, 1) := by decide +kernel
theorem dX7_readPair_6 : decode cX7_readPair 6 = .ok (.bipush 16, 2) := by decide +kernel
theorem dX7_readPair_8 : decode cX7_readPair 8 = .ok (.ishr, 1) := by decide +kernel
theorem dX7_readPair_9 : decode cX7_readPair 9 = .ok (.iastore, 1) := by decide +kernel
theorem dX7_readPair_10 : decode cX7_readPair 10 = .ok (.aload_n 0, 1) := by decide +kernel
theorem dX7_readPair_11 : decode cX7_readPair 11 = .ok (.getfield 67, 3) := by decide +kernel
theorem dX7_readPair_14 : decode cX7_readPair 14 = .ok (.iload_n 1, 1) := by decide +kernel
theorem dX7_readPair_15 : decode cX7_readPair 15 = .ok (.iconst 1, 1) := by decide +kernel
theorem dX7_readPair_16 : decode cX7_readPair 16 = .ok (.iadd, 1) := by decide +kernel
theorem dX7_readPair_17 : decode cX7_readPair 17 = .ok (.iload_n 2, 1) := by decide +kernel
theorem dX7_readPair_18 : decode cX7_readPair 18 = .ok (.bipush 16, 2) := by decide +kernel
theorem dX7_readPair_20 : decode cX7_readPair 20 = .ok (.ishl, 1) := by decide +kernel
theorem dX7_readPair_21 : decode cX7_readPair 21 = .ok (.bipush 16, 2) := by decide +kernel
theorem dX7_readPair_23 : decode cX7_readPair 23 = .ok (.ishr, 1) := by decide +kernel
theorem dX7_readPair_24 : decode cX7_readPair 24 = .ok (.iastore, 1) := by decide +kernel
theorem dX7_readPair_25 : decode cX7_readPair 25 = .ok (.return_, 1) := by decide +kernel
theorem dX7_firstGreatest_0 : decode cX7_firstGreatest 0 = .ok (.iconst 0, 1) := by decide +kernel
theorem dX7_firstGreatest_1 : decode cX7_firstGreatest 1 = .ok (.istore_n 2, 1) := by decide +kernel
theorem dX7_firstGreatest_2 : decode cX7_firstGreatest 2 = .ok (.iconst 1, 1) := by decide +kernel
theorem dX7_firstGreatest_3 : decode cX7_firstGreatest 3 = .ok (.istore_n 3, 1) := by decide +kernel
theorem dX7_firstGreatest_4 : decode cX7_firstGreatest 4 = .ok (.iload_n 3, 1) := by decide +kernel
theorem dX7_firstGreatest_5 : decode cX7_firstGreatest 5 = .ok (.iconst 4, 1) := by decide +kernel
theorem dX7_firstGreatest_6 : decode cX7_firstGreatest 6 = .ok (.if_icmp .ge 24, 3) := by decide +kernel
theorem dX7_firstGreatest_9 : decode cX7_firstGreatest 9 = .ok (.aload_n 0, 1) := by decide +kernel
theorem dX7_firstGreatest_10 : decode cX7_firstGreatest 10 = .ok (.iload_n 1, 1) := by decide +kernel
theorem dX7_firstGreatest_11 : decode cX7_firstGreatest 11 = .ok (.iload_n 3, 1) := by decide +kernel
theorem dX7_firstGreatest_12 : decode cX7_firstGreatest 12 = .ok (.iadd, 1) := by decide +kernel
theorem dX7_firstGreatest_13 : decode cX7_firstGreatest 13 = .ok (.iaload, 1) := by decide +kernel
theorem dX7_firstGreatest_14 : decode cX7_firstGreatest 14 = .ok (.aload_n 0, 1) := by decide +kernel
theorem dX7_firstGreatest_15 : decode cX7_firstGreatest 15 = .ok (.iload_n 1, 1) := by decide +kernel
theorem dX7_firstGreatest_16 : decode cX7_firstGreatest 16 = .ok (.iload_n 2, 1) := by decide +kernel
theorem dX7_firstGreatest_17 : decode cX7_firstGreatest 17 = .ok (.iadd, 1) := by decide +kernel
theorem dX7_firstGreatest_18 : decode cX7_firstGreatest 18 = .ok (.iaload, 1) := by decide +kernel
theorem dX7_firstGreatest_19 : decode cX7_firstGreatest 19 = .ok (.if_icmp .le 5, 3) := by decide +kernel
theorem dX7_firstGreatest_24 : decode cX7_firstGreatest 24 = .ok (.iinc 3 1, 3) := by decide +kernel
theorem dX7_firstGreatest_27 : decode cX7_firstGreatest 27 = .ok (.goto (-23), 3) := by decide +kernel
theorem dX7_firstGreatest_30 : decode cX7_firstGreatest 30 = .ok (.iload_n 2, 1) := by decide +kernel
theorem dX7_firstGreatest_31 : decode cX7_firstGreatest 31 = .ok (.ireturn, 1) := by decide +kernel
theorem dX7_clear_0 : decode cX7_clear 0 = .ok (.iconst 0, 1) := by decide +kernel
theorem dX7_clear_1 : decode cX7_clear 1 = .ok (.istore_n 1, 1) := by decide +kernel
theorem dX7_clear_2 : decode cX7_clear 2 = .ok (.iload_n 1, 1) := by decide +kernel
theorem dX7_clear_3 : decode cX7_clear 3 = .ok (.iconst 4, 1) := by decide +kernel
theorem dX7_clear_4 : decode cX7_clear 4 = .ok (.if_icmp .ge 13, 3) := by decide +kernel
theorem dX7_clear_7 : decode cX7_clear 7 = .ok (.aload_n 0, 1) := by decide +kernel
theorem dX7_clear_8 : decode cX7_clear 8 = .ok (.iload_n 1, 1) := by decide +kernel
theorem dX7_clear_9 : decode cX7_clear 9 = .ok (.iconst 0, 1) := by decide +kernel
theorem dX7_clear_10 : decode cX7_clear 10 = .ok (.iastore, 1) := by decide +kernel
theorem dX7_clear_11 : decode cX7_clear 11 = .ok (.iinc 1 1, 3) := by decide +kernel
theorem dX7_clear_14 : decode cX7_clear 14 = .ok (.goto (-12), 3) := by decide +kernel
theorem dX7_clear_17 : decode cX7_clear 17 = .ok (.return_, 1) := by decide +kernel
set_option maxRecDepth 20000 in
theorem ggX0_append_X0_putInOrder : GoodIn wsX0_append wsX0_putInOrder := goodIn_r _ [8, 1, 3, 9, 10, 11, 12, 13, 14, 15, 16, 17, 18] (by decide +kernel) (by decide +kernel)
set_option maxRecDepth 20000 in
theorem gX0_append_X0_putInOrder : GoodIn wsX0_append (wsV RX0 28 RX0 yX0_putInOrder wsX0_putInOrder) := goodIn_app (goodIn_of _ (by decide +kernel)) ggX0_append_X0_putInOrder
set_option maxRecDepth 20000 in
theorem ggX1_findInto_X1_build : GoodIn wsX1_findInto wsX1_build := goodIn_r _ [7, 1, 8, 9, 10, 11, 12, 13, 14, 15, 16, 17, 18, 19, 20, 21, 22, 23, 24, 25, 26, 27, 28, 29, 30, 31, 32, 33, 34, 35, 36, 37, 38, 39, 40, 41, 42, 43, 44, 45, 46, 6, 47, 48, 49, 50, 51, 52, 53, 54, 55, 56, 57, 58, 59, 60, 61, 62, 63, 64, 65, 66, 67, 68, 69, 70, 71, 72, 73, 74, 75, 76, 77, 78, 79, 80, 81, 82, 83, 84, 85, 86, 87, 88, 89, 90, 91, 92, 93, 94, 95, 96, 97, 98, 99, 100, 101, 102, 103, 104, 105, 106, 107, 108, 109, 110, 111, 112, 113, 3, 4, 5, 114, 115, 116, 117, 118, 119, 120, 121, 122, 123, 124, 125, 131, 132, 133, 134, 135, 136, 137, 126, 127, 128, 129, 130, 138, 139, 140, 141, 142] (by decide +kernel) (by decide +kernel)
set_option maxRecDepth 20000 in
theorem gX1_findInto_X1_build : GoodIn wsX1_findInto (wsV RX1 32 RX1 yX1_build wsX1_build) := goodIn_app (goodIn_of _ (by decide +kernel)) ggX1_findInto_X1_build
set_option maxRecDepth 20000 in
theorem ggX1_build_X4_tally : GoodIn wsX1_build wsX4_tally := goodIn_r _ [11, 12, 13, 14, 15, 16, 17, 18, 19, 10, 20, 21, 131, 132, 133, 134, 135, 136, 137, 138, 139, 140] (by decide +kernel) (by decide +kernel)
set_option maxRecDepth 20000 in
theorem gX1_build_X4_tally : GoodIn wsX1_build (wsV RX1 36 RX4 yX4_tally wsX4_tally) := goodIn_app (goodIn_of _ (by decide +kernel)) ggX1_build_X4_tally
set_option maxRecDepth 20000 in
theorem ggX1_build_X6_open : GoodIn wsX1_build wsX6_open := goodIn_r _ [26, 27, 28, 29, 30, 31, 32, 33, 34, 35, 36, 37, 124, 125, 126, 127, 128, 129, 130] (by decide +kernel) (by decide +kernel)
set_option maxRecDepth 20000 in
theorem gX1_build_X6_open : GoodIn wsX1_build (wsV RX1 40 RX6 yX6_open wsX6_open) := goodIn_app (goodIn_of _ (by decide +kernel)) ggX1_build_X6_open
set_option maxRecDepth 20000 in
theorem ggX1_build_X1_takeOne : GoodIn wsX1_build wsX1_takeOne := goodIn_r _ [42, 1, 43, 4, 44, 5, 45, 3, 46, 47, 48, 49, 10, 50, 51, 17, 18, 19, 20, 21, 52, 53, 54, 41, 55, 2, 56, 57, 58, 59, 14, 15, 16, 60, 61, 62, 63, 64, 65, 66, 67, 68, 69, 70, 12, 71, 72, 73, 74, 75, 76, 77, 78, 79, 80, 81, 82, 112, 113, 114, 115, 116, 117, 118, 119, 120, 121, 122, 123, 131, 132, 133, 134, 135, 136, 137, 138, 139, 140] (by decide +kernel) (by decide +kernel)
set_option maxRecDepth 20000 in
theorem gX1_build_X1_takeOne : GoodIn wsX1_build (wsV RX1 46 RX1 yX1_takeOne wsX1_takeOne) := goodIn_app (goodIn_of _ (by decide +kernel)) ggX1_build_X1_takeOne
set_option maxRecDepth 20000 in
theorem ggX1_takeOne_X4_setSides : GoodIn wsX1_takeOne wsX4_setSides := goodIn_r _ [13, 14, 15, 16, 17, 12, 18, 19, 69, 70, 71, 72, 73] (by decide +kernel) (by decide +kernel)
set_option maxRecDepth 20000 in
theorem gX1_takeOne_X4_setSides : GoodIn wsX1_takeOne (wsV RX1 74 RX4 yX4_setSides wsX4_setSides) := goodIn_app (goodIn_of _ (by decide +kernel)) ggX1_takeOne_X4_setSides
set_option maxRecDepth 20000 in
theorem ggX1_takeOne_X1_seekOne : GoodIn wsX1_takeOne wsX1_seekOne := goodIn_r _ [24, 25, 26, 1, 27, 28, 29, 2, 4, 6, 30, 31, 32, 33, 16, 17, 12, 18, 19, 34, 35, 36, 37, 38, 39, 40, 41, 42, 43, 44, 45, 46, 47, 48, 23, 49, 50, 51, 52, 53, 54, 55, 56, 57, 58, 59, 60, 61, 62, 63, 64, 65, 66, 67, 68, 69, 70, 71, 72, 73, 74, 75, 76, 77, 78] (by decide +kernel) (by decide +kernel)
set_option maxRecDepth 20000 in
theorem gX1_takeOne_X1_seekOne : GoodIn wsX1_takeOne (wsV RX1 77 RX1 yX1_seekOne wsX1_seekOne) := goodIn_app (goodIn_of _ (by decide +kernel)) ggX1_takeOne_X1_seekOne
set_option maxRecDepth 20000 in
theorem ggX1_seekOne_X7_clear : GoodIn wsX1_seekOne wsX7_clear := goodIn_r _ [12] (by decide +kernel) (by decide +kernel)
set_option maxRecDepth 20000 in
theorem gX1_seekOne_X7_clear_n114 : GoodIn wsX1_seekOne (wsX7_clear) := ggX1_seekOne_X7_clear
set_option maxRecDepth 20000 in
theorem ggX1_seekOne_X7_firstGreatest : GoodIn wsX1_seekOne wsX7_firstGreatest := goodIn_r _ [20] (by decide +kernel) (by decide +kernel)
set_option maxRecDepth 20000 in
theorem gX1_seekOne_X7_firstGreatest_n124 : GoodIn wsX1_seekOne (wsX7_firstGreatest) := ggX1_seekOne_X7_firstGreatest
set_option maxRecDepth 20000 in
theorem ggX2_growInto_X2_branch : GoodIn wsX2_growInto wsX2_branch := goodIn_r _ [13, 7, 14, 5, 15, 16, 17, 18, 19, 20, 21, 22, 23, 24, 25, 26, 27, 28, 29, 30, 31, 32, 33, 34, 35, 36, 37, 38, 39, 40, 41, 42, 43, 44, 45, 46, 47, 48, 49, 50, 51, 52, 53, 54, 12, 55, 56, 57, 58, 59, 60, 61, 62, 63, 64, 65, 66, 67, 68, 69, 70, 71, 72, 73, 74, 75, 76, 77, 78, 79, 80, 81, 82, 83, 6, 84, 85, 86, 87, 88, 89, 90, 91, 92, 93, 94, 95, 96, 97, 98, 99, 100, 101, 102, 103, 9, 10, 11, 104, 105, 106, 107, 108, 109, 110, 111, 112, 113, 114, 115, 121, 122, 123, 124, 125, 126, 127, 116, 117, 118, 119, 120, 128, 129, 130, 131, 132] (by decide +kernel) (by decide +kernel)
set_option maxRecDepth 20000 in
theorem gX2_growInto_X2_branch : GoodIn wsX2_growInto (wsV RX2 47 RX2 yX2_branch wsX2_branch) := goodIn_app (goodIn_of _ (by decide +kernel)) ggX2_growInto_X2_branch
set_option maxRecDepth 20000 in
theorem ggX2_branch_X4_tally : GoodIn wsX2_branch wsX4_tally := goodIn_r _ [12, 13, 14, 15, 16, 17, 18, 19, 20, 11, 21, 22, 117, 118, 119, 120, 121, 122, 123, 124, 125, 126] (by decide +kernel) (by decide +kernel)
set_option maxRecDepth 20000 in
theorem gX2_branch_X4_tally : GoodIn wsX2_branch (wsV RX2 51 RX4 yX4_tally wsX4_tally) := goodIn_app (goodIn_of _ (by decide +kernel)) ggX2_branch_X4_tally
set_option maxRecDepth 20000 in
theorem ggX2_branch_X6_open : GoodIn wsX2_branch wsX6_open := goodIn_r _ [27, 28, 29, 30, 31, 32, 33, 34, 35, 36, 37, 38, 110, 111, 112, 113, 114, 115, 116] (by decide +kernel) (by decide +kernel)
set_option maxRecDepth 20000 in
theorem gX2_branch_X6_open : GoodIn wsX2_branch (wsV RX2 55 RX6 yX6_open wsX6_open) := goodIn_app (goodIn_of _ (by decide +kernel)) ggX2_branch_X6_open
set_option maxRecDepth 20000 in
theorem ggX2_branch_X7_firstGreatest : GoodIn wsX2_branch wsX7_firstGreatest := goodIn_r _ [40] (by decide +kernel) (by decide +kernel)
set_option maxRecDepth 20000 in
theorem gX2_branch_X7_firstGreatest_n61 : GoodIn wsX2_branch (wsX7_firstGreatest) := ggX2_branch_X7_firstGreatest
set_option maxRecDepth 20000 in
theorem ggX4_tally_X7_clear : GoodIn wsX4_tally wsX7_clear := goodIn_r _ [5] (by decide +kernel) (by decide +kernel)
set_option maxRecDepth 20000 in
theorem gX4_tally_X7_clear_n48 : GoodIn wsX4_tally (wsX7_clear) := ggX4_tally_X7_clear
set_option maxRecDepth 20000 in
theorem ggX7_init_X0_init : GoodIn wsX7_init wsX0_init := goodIn_r _ [40, 41, 2, 3, 31, 42, 43, 44, 45, 46, 91, 92, 93, 94, 95] (by decide +kernel) (by decide +kernel)
set_option maxRecDepth 20000 in
theorem gX7_init_X0_init_n11 : GoodIn wsX7_init (wsX0_init) := ggX7_init_X0_init
set_option maxRecDepth 20000 in
theorem ggX7_init_X4_init : GoodIn wsX7_init wsX4_init := goodIn_r _ [49, 50, 2, 3, 31, 51, 52, 53, 54, 55, 110, 111, 112, 113, 114] (by decide +kernel) (by decide +kernel)
set_option maxRecDepth 20000 in
theorem gX7_init_X4_init : GoodIn wsX7_init (wsX4_init) := ggX7_init_X4_init
set_option maxRecDepth 20000 in
theorem ggX7_init_X2_init : GoodIn wsX7_init wsX2_init := goodIn_r _ [58, 59, 2, 3, 31, 60, 61, 62, 63, 64, 115, 116, 117, 118, 119, 120, 121, 122, 123, 124, 125, 126] (by decide +kernel) (by decide +kernel)
set_option maxRecDepth 20000 in
theorem gX7_init_X2_init : GoodIn wsX7_init (wsX2_init) := ggX7_init_X2_init
set_option maxRecDepth 20000 in
theorem ggX7_init_X1_init : GoodIn wsX7_init wsX1_init := goodIn_r _ [67, 68, 2, 3, 31, 69, 70, 71, 72, 127, 128, 129, 130, 131, 132, 133, 134, 135, 136, 137, 138] (by decide +kernel) (by decide +kernel)
set_option maxRecDepth 20000 in
theorem gX7_init_X1_init : GoodIn wsX7_init (wsX1_init) := ggX7_init_X1_init
set_option maxRecDepth 20000 in
theorem ggX7_init_X3_init : GoodIn wsX7_init wsX3_init := goodIn_r _ [74, 75, 2, 3, 31, 76, 77, 78, 139, 140, 141, 142, 143] (by decide +kernel) (by decide +kernel)
set_option maxRecDepth 20000 in
theorem gX7_init_X3_init_n43 : GoodIn wsX7_init (wsX3_init) := ggX7_init_X3_init
set_option maxRecDepth 20000 in
theorem ggX7_init_X5_init : GoodIn wsX7_init wsX5_init := goodIn_r _ [81, 82, 2, 3, 31, 83, 84, 85, 86, 87, 88, 89, 90, 144, 145, 146, 147, 148, 149, 150] (by decide +kernel) (by decide +kernel)
set_option maxRecDepth 20000 in
theorem gX7_init_X5_init : GoodIn wsX7_init (wsX5_init) := ggX7_init_X5_init
set_option maxRecDepth 20000 in
theorem ggX7_sort_X7_isMark : GoodIn wsX7_sort wsX7_isMark := goodIn_r _ [8] (by decide +kernel) (by decide +kernel)
set_option maxRecDepth 20000 in
theorem gX7_sort_X7_isMark : GoodIn wsX7_sort (va_wsS RX7 90 yX7_isMark wsX7_isMark) := goodIn_app (goodIn_of _ (by decide +kernel)) ggX7_sort_X7_isMark
set_option maxRecDepth 20000 in
theorem ggX7_add_X7_isClass : GoodIn wsX7_add wsX7_isClass := goodIn_r _ [7] (by decide +kernel) (by decide +kernel)
set_option maxRecDepth 20000 in
theorem gX7_add_X7_isClass : GoodIn wsX7_add (va_wsS RX7 97 yX7_isClass wsX7_isClass) := goodIn_app (goodIn_of _ (by decide +kernel)) ggX7_add_X7_isClass
set_option maxRecDepth 20000 in
theorem ggX7_add_X7_readTold : GoodIn wsX7_add wsX7_readTold := goodIn_r _ [11, 3, 12, 13, 14, 6, 15, 33, 34, 35, 36, 37, 38, 39, 40, 41, 42, 43, 44, 45, 46] (by decide +kernel) (by decide +kernel)
set_option maxRecDepth 20000 in
theorem gX7_add_X7_readTold : GoodIn wsX7_add (wsV RX7 100 RX7 yX7_readTold wsX7_readTold) := goodIn_app (goodIn_of _ (by decide +kernel)) ggX7_add_X7_readTold
set_option maxRecDepth 20000 in
theorem ggX7_add_X0_append : GoodIn wsX7_add wsX0_append := goodIn_r _ [20, 21, 22, 23, 24, 25, 26, 19, 27, 28, 29, 30, 31, 32, 47, 48, 49, 50, 51] (by decide +kernel) (by decide +kernel)
set_option maxRecDepth 20000 in
theorem gX7_add_X0_append : GoodIn wsX7_add (wsV RX7 104 RX0 yX0_append wsX0_append) := goodIn_app (goodIn_of _ (by decide +kernel)) ggX7_add_X0_append
set_option maxRecDepth 20000 in
theorem ggX7_drop_X7_isCase : GoodIn wsX7_drop wsX7_isCase := goodIn_r _ [7, 1, 2, 25, 26, 27, 28, 29, 30, 31, 32, 33, 34, 35, 36, 37, 38, 39, 40, 41, 42, 43] (by decide +kernel) (by decide +kernel)
set_option maxRecDepth 20000 in
theorem gX7_drop_X7_isCase : GoodIn wsX7_drop (wsV RX7 108 RX7 yX7_isCase wsX7_isCase) := goodIn_app (goodIn_of _ (by decide +kernel)) ggX7_drop_X7_isCase
set_option maxRecDepth 20000 in
theorem ggX7_mark_X7_isCase : GoodIn wsX7_mark wsX7_isCase := goodIn_r _ [8, 1, 9, 13, 14, 15, 16, 17, 18, 19, 20, 21, 22, 23, 24, 25, 26, 27, 28, 29, 30, 31] (by decide +kernel) (by decide +kernel)
set_option maxRecDepth 20000 in
theorem gX7_mark_X7_isCase : GoodIn wsX7_mark (wsV RX7 108 RX7 yX7_isCase wsX7_isCase) := goodIn_app (goodIn_of _ (by decide +kernel)) ggX7_mark_X7_isCase
set_option maxRecDepth 20000 in
theorem ggX7_cls_X7_isCase : GoodIn wsX7_cls wsX7_isCase := goodIn_r _ [7, 1, 8, 9, 10, 11, 12, 13, 14, 15, 16, 17, 18, 19, 20, 21, 22, 23, 24, 25, 26, 27] (by decide +kernel) (by decide +kernel)
set_option maxRecDepth 20000 in
theorem gX7_cls_X7_isCase : GoodIn wsX7_cls (wsV RX7 108 RX7 yX7_isCase wsX7_isCase) := goodIn_app (goodIn_of _ (by decide +kernel)) ggX7_cls_X7_isCase
set_option maxRecDepth 20000 in
theorem ggX7_grow_X7_canGrow : GoodIn wsX7_grow wsX7_canGrow := goodIn_r _ [7] (by decide +kernel) (by decide +kernel)
set_option maxRecDepth 20000 in
theorem gX7_grow_X7_canGrow : GoodIn wsX7_grow (va_wsS RX7 122 yX7_canGrow wsX7_canGrow) := goodIn_app (goodIn_of _ (by decide +kernel)) ggX7_grow_X7_canGrow
set_option maxRecDepth 20000 in
theorem ggX7_grow_X4_loadAll : GoodIn wsX7_grow wsX4_loadAll := goodIn_r _ [12, 13, 14, 15, 16, 17, 18, 19, 20, 21, 149, 150, 151, 152, 153, 154, 155, 156, 157, 158] (by decide +kernel) (by decide +kernel)
set_option maxRecDepth 20000 in
theorem gX7_grow_X4_loadAll : GoodIn wsX7_grow (wsV RX7 126 RX4 yX4_loadAll wsX4_loadAll) := goodIn_app (goodIn_of _ (by decide +kernel)) ggX7_grow_X4_loadAll
set_option maxRecDepth 20000 in
theorem ggX7_grow_X7_placeFor : GoodIn wsX7_grow wsX7_placeFor := goodIn_r _ [25, 26, 27, 28, 29, 30, 31, 32, 33, 34, 35, 36, 37, 38, 39, 40, 41, 42, 43, 135, 136, 137, 138, 139, 140, 141, 142, 143, 144, 145, 146, 147, 148, 159, 160, 161, 162, 163, 164, 165] (by decide +kernel) (by decide +kernel)
set_option maxRecDepth 20000 in
theorem gX7_grow_X7_placeFor : GoodIn wsX7_grow (wsV RX7 129 RX7 yX7_placeFor wsX7_placeFor) := goodIn_app (goodIn_of _ (by decide +kernel)) ggX7_grow_X7_placeFor
set_option maxRecDepth 20000 in
theorem ggX7_grow_X2_growInto : GoodIn wsX7_grow wsX2_growInto := goodIn_r _ [48, 49, 50, 51, 52, 53, 54, 55, 56, 57, 58, 59, 47, 60, 61, 62, 63, 64, 65, 66, 67, 68, 11, 69, 13, 70, 71, 6, 72, 73, 74, 75, 76, 15, 77, 78, 79, 29, 80, 43, 37, 38, 39, 40, 41, 42, 81, 17, 18, 19, 82, 83, 84, 85, 86, 87, 88, 89, 90, 91, 92, 93, 94, 95, 96, 97, 98, 99, 100, 101, 102, 103, 104, 105, 106, 107, 108, 109, 110, 111, 112, 113, 114, 115, 116, 117, 118, 119, 120, 121, 122, 123, 124, 125, 126, 127, 128, 129, 130, 131, 132, 133, 134, 16, 166, 167, 168, 169, 170, 171, 172, 173, 174, 175, 176, 177, 149, 150, 151, 152, 153, 159, 160, 161, 162, 163, 164, 165, 154, 155, 156, 157, 158] (by decide +kernel) (by decide +kernel)
set_option maxRecDepth 20000 in
theorem gX7_grow_X2_growInto : GoodIn wsX7_grow (wsV RX7 133 RX2 yX2_growInto wsX2_growInto) := goodIn_app (goodIn_of _ (by decide +kernel)) ggX7_grow_X2_growInto
set_option maxRecDepth 20000 in
theorem ggX7_best_X0_haveGaps : GoodIn wsX7_best wsX0_haveGaps := goodIn_r _ [10, 11, 12, 13, 166, 167, 168, 169, 170] (by decide +kernel) (by decide +kernel)
set_option maxRecDepth 20000 in
theorem gX7_best_X0_haveGaps : GoodIn wsX7_best (wsV RX7 137 RX0 yX0_haveGaps wsX0_haveGaps) := goodIn_app (goodIn_of _ (by decide +kernel)) ggX7_best_X0_haveGaps
set_option maxRecDepth 20000 in
theorem ggX7_best_X4_loadAll : GoodIn wsX7_best wsX4_loadAll := goodIn_r _ [18, 19, 20, 21, 22, 23, 24, 25, 26, 27, 171, 172, 173, 174, 175, 166, 167, 168, 169, 170] (by decide +kernel) (by decide +kernel)
set_option maxRecDepth 20000 in
theorem gX7_best_X4_loadAll : GoodIn wsX7_best (wsV RX7 126 RX4 yX4_loadAll wsX4_loadAll) := goodIn_app (goodIn_of _ (by decide +kernel)) ggX7_best_X4_loadAll
set_option maxRecDepth 20000 in
theorem ggX7_best_X7_placeFor : GoodIn wsX7_best wsX7_placeFor := goodIn_r _ [32, 33, 34, 35, 36, 37, 38, 39, 40, 41, 42, 43, 44, 45, 46, 47, 48, 49, 50, 152, 153, 154, 155, 156, 157, 158, 159, 160, 161, 162, 163, 164, 165, 176, 177, 178, 179, 180, 181, 182] (by decide +kernel) (by decide +kernel)
set_option maxRecDepth 20000 in
theorem gX7_best_X7_placeFor : GoodIn wsX7_best (wsV RX7 129 RX7 yX7_placeFor wsX7_placeFor) := goodIn_app (goodIn_of _ (by decide +kernel)) ggX7_best_X7_placeFor
set_option maxRecDepth 20000 in
theorem ggX7_best_X1_findInto : GoodIn wsX7_best wsX1_findInto := goodIn_r _ [55, 56, 57, 58, 59, 60, 54, 61, 62, 63, 64, 65, 66, 67, 68, 69, 17, 70, 19, 71, 72, 31, 73, 74, 75, 76, 77, 21, 78, 79, 80, 36, 81, 50, 44, 45, 46, 47, 48, 49, 82, 23, 24, 25, 83, 84, 85, 86, 87, 88, 89, 90, 91, 92, 93, 94, 95, 96, 97, 98, 99, 100, 101, 102, 103, 104, 105, 106, 107, 108, 109, 110, 111, 112, 113, 114, 115, 116, 117, 118, 119, 120, 121, 122, 123, 124, 125, 126, 127, 128, 129, 130, 131, 132, 133, 134, 135, 136, 137, 138, 139, 140, 141, 142, 143, 144, 145, 146, 147, 22, 148, 149, 150, 151, 183, 184, 185, 186, 187, 188, 189, 190, 191, 192, 193, 194, 171, 172, 173, 174, 175, 176, 177, 178, 179, 180, 181, 182, 166, 167, 168, 169, 170] (by decide +kernel) (by decide +kernel)
set_option maxRecDepth 20000 in
theorem gX7_best_X1_findInto : GoodIn wsX7_best (wsV RX7 141 RX1 yX1_findInto wsX1_findInto) := goodIn_app (goodIn_of _ (by decide +kernel)) ggX7_best_X1_findInto
set_option maxRecDepth 20000 in
theorem ggX7_cut_X7_treeAt : GoodIn wsX7_cut wsX7_treeAt := goodIn_r _ [7, 1, 8, 92, 93, 94, 95, 96, 97, 98, 99, 100, 101, 102, 103, 104, 105] (by decide +kernel) (by decide +kernel)
set_option maxRecDepth 20000 in
theorem gX7_cut_X7_treeAt : GoodIn wsX7_cut (wsV RX7 145 RX7 yX7_treeAt wsX7_treeAt) := goodIn_app (goodIn_of _ (by decide +kernel)) ggX7_cut_X7_treeAt
set_option maxRecDepth 20000 in
theorem ggX7_price_X7_treeAt : GoodIn wsX7_price wsX7_treeAt := goodIn_r _ [9, 10, 11, 64, 65, 66, 67, 68, 69, 70, 71, 72, 73, 74, 75, 76, 77] (by decide +kernel) (by decide +kernel)
set_option maxRecDepth 20000 in
theorem gX7_price_X7_treeAt : GoodIn wsX7_price (wsV RX7 145 RX7 yX7_treeAt wsX7_treeAt) := goodIn_app (goodIn_of _ (by decide +kernel)) ggX7_price_X7_treeAt
set_option maxRecDepth 20000 in
theorem ggX7_folds_X7_canGrow : GoodIn wsX7_folds wsX7_canGrow := goodIn_r _ [8] (by decide +kernel) (by decide +kernel)
set_option maxRecDepth 20000 in
theorem gX7_folds_X7_canGrow : GoodIn wsX7_folds (va_wsS RX7 122 yX7_canGrow wsX7_canGrow) := goodIn_app (goodIn_of _ (by decide +kernel)) ggX7_folds_X7_canGrow
set_option maxRecDepth 20000 in
theorem ggX7_folds_X7_placeFor : GoodIn wsX7_folds wsX7_placeFor := goodIn_r _ [12, 13, 14, 15, 16, 17, 18, 19, 20, 21, 22, 23, 24, 25, 26, 27, 28, 29, 30, 161, 162, 163, 164, 165, 166, 167, 168, 169, 170, 171, 172, 173, 174, 180, 181, 182, 183, 184, 185, 186] (by decide +kernel) (by decide +kernel)
set_option maxRecDepth 20000 in
theorem gX7_folds_X7_placeFor : GoodIn wsX7_folds (wsV RX7 129 RX7 yX7_placeFor wsX7_placeFor) := goodIn_app (goodIn_of _ (by decide +kernel)) ggX7_folds_X7_placeFor
set_option maxRecDepth 20000 in
theorem ggX7_folds_X4_loadWithout : GoodIn wsX7_folds wsX4_loadWithout := goodIn_r _ [35, 36, 37, 38, 39, 40, 187, 188, 189, 190, 191, 175, 176, 177, 178, 179] (by decide +kernel) (by decide +kernel)
set_option maxRecDepth 20000 in
theorem gX7_folds_X4_loadWithout : GoodIn wsX7_folds (wsV RX7 163 RX4 yX4_loadWithout wsX4_loadWithout) := goodIn_app (goodIn_of _ (by decide +kernel)) ggX7_folds_X4_loadWithout
set_option maxRecDepth 20000 in
theorem ggX7_folds_X2_growInto : GoodIn wsX7_folds wsX2_growInto := goodIn_r _ [45, 46, 47, 48, 49, 50, 51, 52, 53, 54, 55, 56, 44, 57, 58, 59, 60, 61, 62, 63, 64, 65, 34, 66, 37, 67, 68, 7, 69, 70, 71, 72, 73, 40, 74, 75, 76, 16, 77, 30, 24, 25, 26, 27, 28, 29, 78, 79, 80, 81, 82, 83, 84, 85, 86, 87, 88, 89, 90, 91, 92, 93, 94, 95, 96, 97, 98, 99, 100, 101, 102, 103, 104, 105, 106, 107, 108, 109, 110, 111, 112, 113, 114, 115, 116, 117, 118, 119, 120, 121, 122, 123, 124, 125, 126, 127, 128, 129, 130, 131, 132, 133, 134, 135, 192, 193, 194, 195, 196, 197, 198, 199, 200, 201, 202, 203, 187, 188, 189, 190, 191, 180, 181, 182, 183, 184, 185, 186, 175, 176, 177, 178, 179] (by decide +kernel) (by decide +kernel)
set_option maxRecDepth 20000 in
theorem gX7_folds_X2_growInto : GoodIn wsX7_folds (wsV RX7 133 RX2 yX2_growInto wsX2_growInto) := goodIn_app (goodIn_of _ (by decide +kernel)) ggX7_folds_X2_growInto
set_option maxRecDepth 20000 in
theorem ggX7_tree_X7_treeAt : GoodIn wsX7_tree wsX7_treeAt := goodIn_r _ [6, 7, 8, 85, 86, 87, 88, 89, 90, 91, 92, 93, 94, 95, 96, 97, 98] (by decide +kernel) (by decide +kernel)
set_option maxRecDepth 20000 in
theorem gX7_tree_X7_treeAt : GoodIn wsX7_tree (wsV RX7 145 RX7 yX7_treeAt wsX7_treeAt) := goodIn_app (goodIn_of _ (by decide +kernel)) ggX7_tree_X7_treeAt
set_option maxRecDepth 20000 in
theorem ggX7_node_X7_treeAt : GoodIn wsX7_node wsX7_treeAt := goodIn_r _ [10, 11, 12, 52, 53, 54, 55, 56, 57, 58, 59, 60, 61, 62, 63, 64, 65] (by decide +kernel) (by decide +kernel)
set_option maxRecDepth 20000 in
theorem gX7_node_X7_treeAt : GoodIn wsX7_node (wsV RX7 145 RX7 yX7_treeAt wsX7_treeAt) := goodIn_app (goodIn_of _ (by decide +kernel)) ggX7_node_X7_treeAt
set_option maxRecDepth 20000 in
theorem ggX7_share_X7_treeAt : GoodIn wsX7_share wsX7_treeAt := goodIn_r _ [6, 7, 8, 25, 26, 27, 28, 29, 30, 31, 32, 33, 34, 35, 36, 37, 38] (by decide +kernel) (by decide +kernel)
set_option maxRecDepth 20000 in
theorem gX7_share_X7_treeAt : GoodIn wsX7_share (wsV RX7 145 RX7 yX7_treeAt wsX7_treeAt) := goodIn_app (goodIn_of _ (by decide +kernel)) ggX7_share_X7_treeAt
set_option maxRecDepth 20000 in
theorem ggX7_say_X7_treeAt : GoodIn wsX7_say wsX7_treeAt := goodIn_r _ [9, 10, 11, 49, 50, 51, 52, 53, 54, 55, 56, 57, 58, 59, 60, 61, 62] (by decide +kernel) (by decide +kernel)
set_option maxRecDepth 20000 in
theorem gX7_say_X7_treeAt : GoodIn wsX7_say (wsV RX7 145 RX7 yX7_treeAt wsX7_treeAt) := goodIn_app (goodIn_of _ (by decide +kernel)) ggX7_say_X7_treeAt
set_option maxRecDepth 20000 in
theorem ggX7_rule_X7_treeAt : GoodIn wsX7_rule wsX7_treeAt := goodIn_r _ [7, 8, 9, 73, 74, 75, 76, 77, 78, 79, 80, 81, 82, 83, 84, 85, 86] (by decide +kernel) (by decide +kernel)
set_option maxRecDepth 20000 in
theorem gX7_rule_X7_treeAt : GoodIn wsX7_rule (wsV RX7 145 RX7 yX7_treeAt wsX7_treeAt) := goodIn_app (goodIn_of _ (by decide +kernel)) ggX7_rule_X7_treeAt
set_option maxRecDepth 20000 in
theorem ggX7_near_X7_treeAt : GoodIn wsX7_near wsX7_treeAt := goodIn_r _ [9, 10, 11, 123, 124, 125, 126, 127, 128, 129, 130, 131, 132, 133, 134, 135, 136] (by decide +kernel) (by decide +kernel)
set_option maxRecDepth 20000 in
theorem gX7_near_X7_treeAt : GoodIn wsX7_near (wsV RX7 145 RX7 yX7_treeAt wsX7_treeAt) := goodIn_app (goodIn_of _ (by decide +kernel)) ggX7_near_X7_treeAt
set_option maxRecDepth 20000 in
theorem ggX7_turned_X7_isMark : GoodIn wsX7_turned wsX7_isMark := goodIn_r _ [7] (by decide +kernel) (by decide +kernel)
set_option maxRecDepth 20000 in
theorem gX7_turned_X7_isMark : GoodIn wsX7_turned (va_wsS RX7 90 yX7_isMark wsX7_isMark) := goodIn_app (goodIn_of _ (by decide +kernel)) ggX7_turned_X7_isMark
set_option maxRecDepth 20000 in
theorem ggX7_placeFor_X6_init : GoodIn wsX7_placeFor wsX6_init := goodIn_r _ [7, 8, 9, 10, 11, 12, 13, 14, 15, 16, 17, 18, 33, 34, 35, 36, 37, 38, 39] (by decide +kernel) (by decide +kernel)
set_option maxRecDepth 20000 in
theorem gX7_placeFor_X6_init_n253 : GoodIn wsX7_placeFor (wsX6_init) := ggX7_placeFor_X6_init
set_option maxRecDepth 20000 in
theorem ggX7_readTold_X7_readPair : GoodIn wsX7_readTold wsX7_readPair := goodIn_r _ [6, 1, 7, 8, 9, 10, 11, 12, 13, 14, 15, 16, 17, 18, 19, 20] (by decide +kernel) (by decide +kernel)
set_option maxRecDepth 20000 in
theorem gX7_readTold_X7_readPair : GoodIn wsX7_readTold (wsV RX7 254 RX7 yX7_readPair wsX7_readPair) := goodIn_app (goodIn_of _ (by decide +kernel)) ggX7_readTold_X7_readPair
