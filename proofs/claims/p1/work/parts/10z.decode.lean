theorem dX8_init_0 : decode cX8_init 0 = .ok (.aload_n 0, 1) := by decide +kernel
theorem dX8_init_1 : decode cX8_init 1 = .ok (.invokespecial 1, 3) := by decide +kernel
theorem dX8_init_4 : decode cX8_init 4 = .ok (.aload_n 0, 1) := by decide +kernel
theorem dX8_init_5 : decode cX8_init 5 = .ok (.sipush 2400, 3) := by decide +kernel
theorem dX8_init_8 : decode cX8_init 8 = .ok (.newarray .int, 2) := by decide +kernel
theorem dX8_init_10 : decode cX8_init 10 = .ok (.putfield 9, 3) := by decide +kernel
theorem dX8_init_13 : decode cX8_init 13 = .ok (.aload_n 0, 1) := by decide +kernel
theorem dX8_init_14 : decode cX8_init 14 = .ok (.sipush 300, 3) := by decide +kernel
theorem dX8_init_17 : decode cX8_init 17 = .ok (.newarray .int, 2) := by decide +kernel
theorem dX8_init_19 : decode cX8_init 19 = .ok (.putfield 13, 3) := by decide +kernel
theorem dX8_init_22 : decode cX8_init 22 = .ok (.aload_n 0, 1) := by decide +kernel
theorem dX8_init_23 : decode cX8_init 23 = .ok (.bipush 8, 2) := by decide +kernel
theorem dX8_init_25 : decode cX8_init 25 = .ok (.newarray .boolean, 2) := by decide +kernel
theorem dX8_init_27 : decode cX8_init 27 = .ok (.putfield 16, 3) := by decide +kernel
theorem dX8_init_30 : decode cX8_init 30 = .ok (.aload_n 0, 1) := by decide +kernel
theorem dX8_init_31 : decode cX8_init 31 = .ok (.ldc 20, 2) := by decide +kernel
theorem dX8_init_33 : decode cX8_init 33 = .ok (.newarray .int, 2) := by decide +kernel
theorem dX8_init_35 : decode cX8_init 35 = .ok (.putfield 21, 3) := by decide +kernel
theorem dX8_init_38 : decode cX8_init 38 = .ok (.aload_n 0, 1) := by decide +kernel
theorem dX8_init_39 : decode cX8_init 39 = .ok (.bipush 21, 2) := by decide +kernel
theorem dX8_init_41 : decode cX8_init 41 = .ok (.newarray .int, 2) := by decide +kernel
theorem dX8_init_43 : decode cX8_init 43 = .ok (.putfield 24, 3) := by decide +kernel
theorem dX8_init_46 : decode cX8_init 46 = .ok (.aload_n 0, 1) := by decide +kernel
theorem dX8_init_47 : decode cX8_init 47 = .ok (.sipush 3000, 3) := by decide +kernel
theorem dX8_init_50 : decode cX8_init 50 = .ok (.newarray .boolean, 2) := by decide +kernel
theorem dX8_init_52 : decode cX8_init 52 = .ok (.putfield 27, 3) := by decide +kernel
theorem dX8_init_55 : decode cX8_init 55 = .ok (.aload_n 0, 1) := by decide +kernel
theorem dX8_init_56 : decode cX8_init 56 = .ok (.bipush 8, 2) := by decide +kernel
theorem dX8_init_58 : decode cX8_init 58 = .ok (.newarray .int, 2) := by decide +kernel
theorem dX8_init_60 : decode cX8_init 60 = .ok (.putfield 30, 3) := by decide +kernel
theorem dX8_init_63 : decode cX8_init 63 = .ok (.aload_n 0, 1) := by decide +kernel
theorem dX8_init_64 : decode cX8_init 64 = .ok (.bipush 8, 2) := by decide +kernel
theorem dX8_init_66 : decode cX8_init 66 = .ok (.newarray .int, 2) := by decide +kernel
theorem dX8_init_68 : decode cX8_init 68 = .ok (.putfield 33, 3) := by decide +kernel
theorem dX8_init_71 : decode cX8_init 71 = .ok (.aload_n 0, 1) := by decide +kernel
theorem dX8_init_72 : decode cX8_init 72 = .ok (.iconst (-1), 1) := by decide +kernel
theorem dX8_init_73 : decode cX8_init 73 = .ok (.putfield 36, 3) := by decide +kernel
theorem dX8_init_76 : decode cX8_init 76 = .ok (.aload_n 0, 1) := by decide +kernel
theorem dX8_init_77 : decode cX8_init 77 = .ok (.iconst (-1), 1) := by decide +kernel
theorem dX8_init_78 : decode cX8_init 78 = .ok (.putfield 40, 3) := by decide +kernel
theorem dX8_init_81 : decode cX8_init 81 = .ok (.aload_n 0, 1) := by decide +kernel
theorem dX8_init_82 : decode cX8_init 82 = .ok (.iconst 4, 1) := by decide +kernel
theorem dX8_init_83 : decode cX8_init 83 = .ok (.newarray .int, 2) := by decide +kernel
theorem dX8_init_85 : decode cX8_init 85 = .ok (.putfield 43, 3) := by decide +kernel
theorem dX8_init_88 : decode cX8_init 88 = .ok (.aload_n 0, 1) := by decide +kernel
theorem dX8_init_89 : decode cX8_init 89 = .ok (.iconst 4, 1) := by decide +kernel
theorem dX8_init_90 : decode cX8_init 90 = .ok (.newarray .int, 2) := by decide +kernel
theorem dX8_init_92 : decode cX8_init 92 = .ok (.putfield 46, 3) := by decide +kernel
theorem dX8_init_95 : decode cX8_init 95 = .ok (.aload_n 0, 1) := by decide +kernel
theorem dX8_init_96 : decode cX8_init 96 = .ok (.bipush 20, 2) := by decide +kernel
theorem dX8_init_98 : decode cX8_init 98 = .ok (.newarray .int, 2) := by decide +kernel
theorem dX8_init_100 : decode cX8_init 100 = .ok (.putfield 49, 3) := by decide +kernel
theorem dX8_init_103 : decode cX8_init 103 = .ok (.aload_n 0, 1) := by decide +kernel
theorem dX8_init_104 : decode cX8_init 104 = .ok (.iconst 4, 1) := by decide +kernel
theorem dX8_init_105 : decode cX8_init 105 = .ok (.newarray .int, 2) := by decide +kernel
theorem dX8_init_107 : decode cX8_init 107 = .ok (.putfield 52, 3) := by decide +kernel
theorem dX8_init_110 : decode cX8_init 110 = .ok (.aload_n 0, 1) := by decide +kernel
theorem dX8_init_111 : decode cX8_init 111 = .ok (.iconst 4, 1) := by decide +kernel
theorem dX8_init_112 : decode cX8_init 112 = .ok (.newarray .int, 2) := by decide +kernel
theorem dX8_init_114 : decode cX8_init 114 = .ok (.putfield 55, 3) := by decide +kernel
theorem dX8_init_117 : decode cX8_init 117 = .ok (.aload_n 0, 1) := by decide +kernel
theorem dX8_init_118 : decode cX8_init 118 = .ok (.iconst 4, 1) := by decide +kernel
theorem dX8_init_119 : decode cX8_init 119 = .ok (.newarray .int, 2) := by decide +kernel
theorem dX8_init_121 : decode cX8_init 121 = .ok (.putfield 58, 3) := by decide +kernel
theorem dX8_init_124 : decode cX8_init 124 = .ok (.aload_n 0, 1) := by decide +kernel
theorem dX8_init_125 : decode cX8_init 125 = .ok (.iconst 4, 1) := by decide +kernel
theorem dX8_init_126 : decode cX8_init 126 = .ok (.newarray .int, 2) := by decide +kernel
theorem dX8_init_128 : decode cX8_init 128 = .ok (.putfield 61, 3) := by decide +kernel
theorem dX8_init_131 : decode cX8_init 131 = .ok (.return_, 1) := by decide +kernel
theorem dX8_sort_0 : decode cX8_sort 0 = .ok (.iload_n 1, 1) := by decide +kernel
theorem dX8_sort_1 : decode cX8_sort 1 = .ok (.ifCond .lt 32, 3) := by decide +kernel
theorem dX8_sort_4 : decode cX8_sort 4 = .ok (.iload_n 1, 1) := by decide +kernel
theorem dX8_sort_5 : decode cX8_sort 5 = .ok (.bipush 8, 2) := by decide +kernel
theorem dX8_sort_7 : decode cX8_sort 7 = .ok (.if_icmp .ge 26, 3) := by decide +kernel
theorem dX8_sort_10 : decode cX8_sort 10 = .ok (.iload_n 2, 1) := by decide +kernel
theorem dX8_sort_11 : decode cX8_sort 11 = .ok (.ifCond .lt 22, 3) := by decide +kernel
theorem dX8_sort_14 : decode cX8_sort 14 = .ok (.iload_n 2, 1) := by decide +kernel
theorem dX8_sort_15 : decode cX8_sort 15 = .ok (.iconst 1, 1) := by decide +kernel
theorem dX8_sort_16 : decode cX8_sort 16 = .ok (.if_icmp .gt 17, 3) := by decide +kernel
theorem dX8_sort_19 : decode cX8_sort 19 = .ok (.aload_n 0, 1) := by decide +kernel
theorem dX8_sort_20 : decode cX8_sort 20 = .ok (.getfield 64, 3) := by decide +kernel
theorem dX8_sort_23 : decode cX8_sort 23 = .ok (.ifCond .gt 10, 3) := by decide +kernel
theorem dX8_sort_26 : decode cX8_sort 26 = .ok (.aload_n 0, 1) := by decide +kernel
theorem dX8_sort_27 : decode cX8_sort 27 = .ok (.getfield 67, 3) := by decide +kernel
theorem dX8_sort_30 : decode cX8_sort 30 = .ok (.ifCond .le 5, 3) := by decide +kernel
theorem dX8_sort_33 : decode cX8_sort 33 = .ok (.iconst (-1), 1) := by decide +kernel
theorem dX8_sort_34 : decode cX8_sort 34 = .ok (.ireturn, 1) := by decide +kernel
theorem dX8_sort_35 : decode cX8_sort 35 = .ok (.aload_n 0, 1) := by decide +kernel
theorem dX8_sort_36 : decode cX8_sort 36 = .ok (.getfield 16, 3) := by decide +kernel
theorem dX8_sort_39 : decode cX8_sort 39 = .ok (.iload_n 1, 1) := by decide +kernel
theorem dX8_sort_40 : decode cX8_sort 40 = .ok (.baload, 1) := by decide +kernel
theorem dX8_sort_41 : decode cX8_sort 41 = .ok (.ifCond .eq 7, 3) := by decide +kernel
theorem dX8_sort_48 : decode cX8_sort 48 = .ok (.iconst 0, 1) := by decide +kernel
theorem dX8_sort_49 : decode cX8_sort 49 = .ok (.istore_n 3, 1) := by decide +kernel
theorem dX8_sort_50 : decode cX8_sort 50 = .ok (.aload_n 0, 1) := by decide +kernel
theorem dX8_sort_51 : decode cX8_sort 51 = .ok (.getfield 16, 3) := by decide +kernel
theorem dX8_sort_54 : decode cX8_sort 54 = .ok (.iload_n 1, 1) := by decide +kernel
theorem dX8_sort_55 : decode cX8_sort 55 = .ok (.iload_n 2, 1) := by decide +kernel
theorem dX8_sort_56 : decode cX8_sort 56 = .ok (.iconst 1, 1) := by decide +kernel
theorem dX8_sort_57 : decode cX8_sort 57 = .ok (.if_icmp .ne 7, 3) := by decide +kernel
theorem dX8_sort_60 : decode cX8_sort 60 = .ok (.iconst 1, 1) := by decide +kernel
theorem dX8_sort_61 : decode cX8_sort 61 = .ok (.goto 4, 3) := by decide +kernel
theorem dX8_sort_64 : decode cX8_sort 64 = .ok (.iconst 0, 1) := by decide +kernel
theorem dX8_sort_65 : decode cX8_sort 65 = .ok (.bastore, 1) := by decide +kernel
theorem dX8_sort_66 : decode cX8_sort 66 = .ok (.iload_n 3, 1) := by decide +kernel
theorem dX8_sort_67 : decode cX8_sort 67 = .ok (.ireturn, 1) := by decide +kernel
theorem dX8_take_0 : decode cX8_take 0 = .ok (.iconst 1, 1) := by decide +kernel
theorem dX8_take_1 : decode cX8_take 1 = .ok (.istore 6, 2) := by decide +kernel
theorem dX8_take_3 : decode cX8_take 3 = .ok (.iconst 0, 1) := by decide +kernel
theorem dX8_take_4 : decode cX8_take 4 = .ok (.istore 7, 2) := by decide +kernel
theorem dX8_take_6 : decode cX8_take 6 = .ok (.iload 7, 2) := by decide +kernel
theorem dX8_take_8 : decode cX8_take 8 = .ok (.bipush 8, 2) := by decide +kernel
theorem dX8_take_10 : decode cX8_take 10 = .ok (.if_icmp .ge 117, 3) := by decide +kernel
theorem dX8_take_13 : decode cX8_take 13 = .ok (.iload 7, 2) := by decide +kernel
theorem dX8_take_15 : decode cX8_take 15 = .ok (.iconst 2, 1) := by decide +kernel
theorem dX8_take_16 : decode cX8_take 16 = .ok (.if_icmp .ge 7, 3) := by decide +kernel
theorem dX8_take_19 : decode cX8_take 19 = .ok (.iload_n 1, 1) := by decide +kernel
theorem dX8_take_20 : decode cX8_take 20 = .ok (.goto 26, 3) := by decide +kernel
theorem dX8_take_23 : decode cX8_take 23 = .ok (.iload 7, 2) := by decide +kernel
theorem dX8_take_25 : decode cX8_take 25 = .ok (.iconst 4, 1) := by decide +kernel
theorem dX8_take_26 : decode cX8_take 26 = .ok (.if_icmp .ge 7, 3) := by decide +kernel
theorem dX8_take_29 : decode cX8_take 29 = .ok (.iload_n 2, 1) := by decide +kernel
theorem dX8_take_30 : decode cX8_take 30 = .ok (.goto 16, 3) := by decide +kernel
theorem dX8_take_33 : decode cX8_take 33 = .ok (.iload 7, 2) := by decide +kernel
theorem dX8_take_35 : decode cX8_take 35 = .ok (.bipush 6, 2) := by decide +kernel
theorem dX8_take_37 : decode cX8_take 37 = .ok (.if_icmp .ge 7, 3) := by decide +kernel
theorem dX8_take_40 : decode cX8_take 40 = .ok (.iload_n 3, 1) := by decide +kernel
theorem dX8_take_41 : decode cX8_take 41 = .ok (.goto 5, 3) := by decide +kernel
theorem dX8_take_44 : decode cX8_take 44 = .ok (.iload 4, 2) := by decide +kernel
theorem dX8_take_46 : decode cX8_take 46 = .ok (.istore 8, 2) := by decide +kernel
theorem dX8_take_48 : decode cX8_take 48 = .ok (.iload 7, 2) := by decide +kernel
theorem dX8_take_50 : decode cX8_take 50 = .ok (.iconst 2, 1) := by decide +kernel
theorem dX8_take_51 : decode cX8_take 51 = .ok (.irem, 1) := by decide +kernel
theorem dX8_take_52 : decode cX8_take 52 = .ok (.ifCond .ne 11, 3) := by decide +kernel
theorem dX8_take_55 : decode cX8_take 55 = .ok (.iload 8, 2) := by decide +kernel
theorem dX8_take_57 : decode cX8_take 57 = .ok (.bipush 16, 2) := by decide +kernel
theorem dX8_take_59 : decode cX8_take 59 = .ok (.ishr, 1) := by decide +kernel
theorem dX8_take_60 : decode cX8_take 60 = .ok (.goto 6, 3) := by decide +kernel
theorem dX8_take_63 : decode cX8_take 63 = .ok (.iload 8, 2) := by decide +kernel
theorem dX8_take_65 : decode cX8_take 65 = .ok (.i2s, 1) := by decide +kernel
theorem dX8_take_66 : decode cX8_take 66 = .ok (.istore 9, 2) := by decide +kernel
theorem dX8_take_68 : decode cX8_take 68 = .ok (.aload_n 0, 1) := by decide +kernel
theorem dX8_take_69 : decode cX8_take 69 = .ok (.getfield 30, 3) := by decide +kernel
theorem dX8_take_72 : decode cX8_take 72 = .ok (.iload 7, 2) := by decide +kernel
theorem dX8_take_74 : decode cX8_take 74 = .ok (.iload 9, 2) := by decide +kernel
theorem dX8_take_76 : decode cX8_take 76 = .ok (.iastore, 1) := by decide +kernel
theorem dX8_take_77 : decode cX8_take 77 = .ok (.iload 6, 2) := by decide +kernel
theorem dX8_take_79 : decode cX8_take 79 = .ok (.ifCond .eq 39, 3) := by decide +kernel
theorem dX8_take_82 : decode cX8_take 82 = .ok (.iload 9, 2) := by decide +kernel
theorem dX8_take_84 : decode cX8_take 84 = .ok (.sipush (-32768), 3) := by decide +kernel
theorem dX8_take_87 : decode cX8_take 87 = .ok (.if_icmp .ne 11, 3) := by decide +kernel
theorem dX8_take_90 : decode cX8_take 90 = .ok (.iload 5, 2) := by decide +kernel
theorem dX8_take_92 : decode cX8_take 92 = .ok (.ifCond .eq 26, 3) := by decide +kernel
theorem dX8_take_95 : decode cX8_take 95 = .ok (.goto 19, 3) := by decide +kernel
theorem dX8_take_98 : decode cX8_take 98 = .ok (.iload 9, 2) := by decide +kernel
theorem dX8_take_100 : decode cX8_take 100 = .ok (.sipush (-1000), 3) := by decide +kernel
theorem dX8_take_103 : decode cX8_take 103 = .ok (.if_icmp .lt 15, 3) := by decide +kernel
theorem dX8_take_106 : decode cX8_take 106 = .ok (.iload 9, 2) := by decide +kernel
theorem dX8_take_108 : decode cX8_take 108 = .ok (.sipush 1000, 3) := by decide +kernel
theorem dX8_take_111 : decode cX8_take 111 = .ok (.if_icmp .gt 7, 3) := by decide +kernel
theorem dX8_take_114 : decode cX8_take 114 = .ok (.iconst 1, 1) := by decide +kernel
theorem dX8_take_115 : decode cX8_take 115 = .ok (.goto 4, 3) := by decide +kernel
theorem dX8_take_118 : decode cX8_take 118 = .ok (.iconst 0, 1) := by decide +kernel
theorem dX8_take_119 : decode cX8_take 119 = .ok (.istore 6, 2) := by decide +kernel
theorem dX8_take_121 : decode cX8_take 121 = .ok (.iinc 7 1, 3) := by decide +kernel
theorem dX8_take_124 : decode cX8_take 124 = .ok (.goto (-118), 3) := by decide +kernel
theorem dX8_take_127 : decode cX8_take 127 = .ok (.iload 6, 2) := by decide +kernel
theorem dX8_take_129 : decode cX8_take 129 = .ok (.ireturn, 1) := by decide +kernel
theorem dX8_add_0 : decode cX8_add 0 = .ok (.iload_n 1, 1) := by decide +kernel
theorem dX8_add_1 : decode cX8_add 1 = .ok (.ifCond .lt 22, 3) := by decide +kernel
theorem dX8_add_4 : decode cX8_add 4 = .ok (.iload_n 1, 1) := by decide +kernel
theorem dX8_add_5 : decode cX8_add 5 = .ok (.iconst 4, 1) := by decide +kernel
theorem dX8_add_6 : decode cX8_add 6 = .ok (.if_icmp .ge 17, 3) := by decide +kernel
theorem dX8_add_9 : decode cX8_add 9 = .ok (.aload_n 0, 1) := by decide +kernel
theorem dX8_add_10 : decode cX8_add 10 = .ok (.iload_n 2, 1) := by decide +kernel
theorem dX8_add_11 : decode cX8_add 11 = .ok (.iload_n 3, 1) := by decide +kernel
theorem dX8_add_12 : decode cX8_add 12 = .ok (.iload 4, 2) := by decide +kernel
theorem dX8_add_14 : decode cX8_add 14 = .ok (.iload 5, 2) := by decide +kernel
theorem dX8_add_16 : decode cX8_add 16 = .ok (.iconst 1, 1) := by decide +kernel
theorem dX8_add_17 : decode cX8_add 17 = .ok (.invokevirtual 70, 3) := by decide +kernel
theorem dX8_add_20 : decode cX8_add 20 = .ok (.ifCond .ne 5, 3) := by decide +kernel
theorem dX8_add_23 : decode cX8_add 23 = .ok (.iconst (-1), 1) := by decide +kernel
theorem dX8_add_24 : decode cX8_add 24 = .ok (.ireturn, 1) := by decide +kernel
theorem dX8_add_25 : decode cX8_add 25 = .ok (.aload_n 0, 1) := by decide +kernel
theorem dX8_add_26 : decode cX8_add 26 = .ok (.getfield 64, 3) := by decide +kernel
theorem dX8_add_29 : decode cX8_add 29 = .ok (.sipush 300, 3) := by decide +kernel
theorem dX8_add_32 : decode cX8_add 32 = .ok (.if_icmp .ne 6, 3) := by decide +kernel
theorem dX8_add_38 : decode cX8_add 38 = .ok (.iconst 0, 1) := by decide +kernel
theorem dX8_add_39 : decode cX8_add 39 = .ok (.istore 6, 2) := by decide +kernel
theorem dX8_add_41 : decode cX8_add 41 = .ok (.iload 6, 2) := by decide +kernel
theorem dX8_add_43 : decode cX8_add 43 = .ok (.bipush 8, 2) := by decide +kernel
theorem dX8_add_45 : decode cX8_add 45 = .ok (.if_icmp .ge 31, 3) := by decide +kernel
theorem dX8_add_48 : decode cX8_add 48 = .ok (.aload_n 0, 1) := by decide +kernel
theorem dX8_add_49 : decode cX8_add 49 = .ok (.getfield 9, 3) := by decide +kernel
theorem dX8_add_52 : decode cX8_add 52 = .ok (.bipush 8, 2) := by decide +kernel
theorem dX8_add_54 : decode cX8_add 54 = .ok (.aload_n 0, 1) := by decide +kernel
theorem dX8_add_55 : decode cX8_add 55 = .ok (.getfield 64, 3) := by decide +kernel
theorem dX8_add_58 : decode cX8_add 58 = .ok (.imul, 1) := by decide +kernel
theorem dX8_add_59 : decode cX8_add 59 = .ok (.iload 6, 2) := by decide +kernel
theorem dX8_add_61 : decode cX8_add 61 = .ok (.iadd, 1) := by decide +kernel
theorem dX8_add_62 : decode cX8_add 62 = .ok (.aload_n 0, 1) := by decide +kernel
theorem dX8_add_63 : decode cX8_add 63 = .ok (.getfield 30, 3) := by decide +kernel
theorem dX8_add_66 : decode cX8_add 66 = .ok (.iload 6, 2) := by decide +kernel
theorem dX8_add_68 : decode cX8_add 68 = .ok (.iaload, 1) := by decide +kernel
theorem dX8_add_69 : decode cX8_add 69 = .ok (.iastore, 1) := by decide +kernel
theorem dX8_add_70 : decode cX8_add 70 = .ok (.iinc 6 1, 3) := by decide +kernel
theorem dX8_add_73 : decode cX8_add 73 = .ok (.goto (-32), 3) := by decide +kernel
theorem dX8_add_76 : decode cX8_add 76 = .ok (.aload_n 0, 1) := by decide +kernel
theorem dX8_add_77 : decode cX8_add 77 = .ok (.getfield 13, 3) := by decide +kernel
theorem dX8_add_80 : decode cX8_add 80 = .ok (.aload_n 0, 1) := by decide +kernel
theorem dX8_add_81 : decode cX8_add 81 = .ok (.getfield 64, 3) := by decide +kernel
theorem dX8_add_84 : decode cX8_add 84 = .ok (.iload_n 1, 1) := by decide +kernel
theorem dX8_add_85 : decode cX8_add 85 = .ok (.iastore, 1) := by decide +kernel
theorem dX8_add_86 : decode cX8_add 86 = .ok (.aload_n 0, 1) := by decide +kernel
theorem dX8_add_87 : decode cX8_add 87 = .ok (.dup, 1) := by decide +kernel
theorem dX8_add_88 : decode cX8_add 88 = .ok (.getfield 64, 3) := by decide +kernel
theorem dX8_add_91 : decode cX8_add 91 = .ok (.iconst 1, 1) := by decide +kernel
theorem dX8_add_92 : decode cX8_add 92 = .ok (.iadd, 1) := by decide +kernel
theorem dX8_add_93 : decode cX8_add 93 = .ok (.putfield 64, 3) := by decide +kernel
theorem dX8_add_96 : decode cX8_add 96 = .ok (.aload_n 0, 1) := by decide +kernel
theorem dX8_add_97 : decode cX8_add 97 = .ok (.getfield 64, 3) := by decide +kernel
theorem dX8_add_100 : decode cX8_add 100 = .ok (.iconst 1, 1) := by decide +kernel
theorem dX8_add_101 : decode cX8_add 101 = .ok (.isub, 1) := by decide +kernel
theorem dX8_add_102 : decode cX8_add 102 = .ok (.ireturn, 1) := by decide +kernel
theorem dX8_drop_0 : decode cX8_drop 0 = .ok (.iload_n 1, 1) := by decide +kernel
theorem dX8_drop_1 : decode cX8_drop 1 = .ok (.ifCond .lt 11, 3) := by decide +kernel
theorem dX8_drop_4 : decode cX8_drop 4 = .ok (.iload_n 1, 1) := by decide +kernel
theorem dX8_drop_5 : decode cX8_drop 5 = .ok (.aload_n 0, 1) := by decide +kernel
theorem dX8_drop_6 : decode cX8_drop 6 = .ok (.getfield 64, 3) := by decide +kernel
theorem dX8_drop_9 : decode cX8_drop 9 = .ok (.if_icmp .lt 5, 3) := by decide +kernel
theorem dX8_drop_12 : decode cX8_drop 12 = .ok (.iconst (-1), 1) := by decide +kernel
theorem dX8_drop_13 : decode cX8_drop 13 = .ok (.ireturn, 1) := by decide +kernel
theorem dX8_mark_0 : decode cX8_mark 0 = .ok (.iload_n 1, 1) := by decide +kernel
theorem dX8_mark_1 : decode cX8_mark 1 = .ok (.ifCond .lt 35, 3) := by decide +kernel
theorem dX8_mark_4 : decode cX8_mark 4 = .ok (.iload_n 1, 1) := by decide +kernel
theorem dX8_mark_5 : decode cX8_mark 5 = .ok (.aload_n 0, 1) := by decide +kernel
theorem dX8_mark_6 : decode cX8_mark 6 = .ok (.getfield 64, 3) := by decide +kernel
theorem dX8_mark_9 : decode cX8_mark 9 = .ok (.if_icmp .ge 27, 3) := by decide +kernel
theorem dX8_mark_36 : decode cX8_mark 36 = .ok (.ldc 74, 2) := by decide +kernel
theorem dX8_mark_38 : decode cX8_mark 38 = .ok (.ireturn, 1) := by decide +kernel
theorem dX8_cls_0 : decode cX8_cls 0 = .ok (.iload_n 1, 1) := by decide +kernel
theorem dX8_cls_1 : decode cX8_cls 1 = .ok (.ifCond .lt 20, 3) := by decide +kernel
theorem dX8_cls_4 : decode cX8_cls 4 = .ok (.iload_n 1, 1) := by decide +kernel
theorem dX8_cls_5 : decode cX8_cls 5 = .ok (.aload_n 0, 1) := by decide +kernel
theorem dX8_cls_6 : decode cX8_cls 6 = .ok (.getfield 64, 3) := by decide +kernel
theorem dX8_cls_9 : decode cX8_cls 9 = .ok (.if_icmp .ge 12, 3) := by decide +kernel
theorem dX8_cls_21 : decode cX8_cls 21 = .ok (.iconst (-1), 1) := by decide +kernel
theorem dX8_cls_22 : decode cX8_cls 22 = .ok (.ireturn, 1) := by decide +kernel
theorem dX8_place_0 : decode cX8_place 0 = .ok (.iload_n 1, 1) := by decide +kernel
theorem dX8_place_1 : decode cX8_place 1 = .ok (.sipush 640, 3) := by decide +kernel
theorem dX8_place_4 : decode cX8_place 4 = .ok (.imul, 1) := by decide +kernel
theorem dX8_place_5 : decode cX8_place 5 = .ok (.iload_n 2, 1) := by decide +kernel
theorem dX8_place_6 : decode cX8_place 6 = .ok (.iadd, 1) := by decide +kernel
theorem dX8_place_7 : decode cX8_place 7 = .ok (.bipush 10, 2) := by decide +kernel
theorem dX8_place_9 : decode cX8_place 9 = .ok (.imul, 1) := by decide +kernel
theorem dX8_place_10 : decode cX8_place 10 = .ok (.ireturn, 1) := by decide +kernel
theorem dX8_countAt_0 : decode cX8_countAt 0 = .ok (.aload_n 0, 1) := by decide +kernel
theorem dX8_countAt_1 : decode cX8_countAt 1 = .ok (.getfield 21, 3) := by decide +kernel
theorem dX8_countAt_4 : decode cX8_countAt 4 = .ok (.iload_n 1, 1) := by decide +kernel
theorem dX8_countAt_5 : decode cX8_countAt 5 = .ok (.bipush 6, 2) := by decide +kernel
theorem dX8_countAt_7 : decode cX8_countAt 7 = .ok (.iadd, 1) := by decide +kernel
theorem dX8_countAt_8 : decode cX8_countAt 8 = .ok (.iaload, 1) := by decide +kernel
theorem dX8_countAt_9 : decode cX8_countAt 9 = .ok (.aload_n 0, 1) := by decide +kernel
theorem dX8_countAt_10 : decode cX8_countAt 10 = .ok (.getfield 21, 3) := by decide +kernel
theorem dX8_countAt_13 : decode cX8_countAt 13 = .ok (.iload_n 1, 1) := by decide +kernel
theorem dX8_countAt_14 : decode cX8_countAt 14 = .ok (.bipush 7, 2) := by decide +kernel
theorem dX8_countAt_16 : decode cX8_countAt 16 = .ok (.iadd, 1) := by decide +kernel
theorem dX8_countAt_17 : decode cX8_countAt 17 = .ok (.iaload, 1) := by decide +kernel
theorem dX8_countAt_18 : decode cX8_countAt 18 = .ok (.iadd, 1) := by decide +kernel
theorem dX8_countAt_19 : decode cX8_countAt 19 = .ok (.aload_n 0, 1) := by decide +kernel
theorem dX8_countAt_20 : decode cX8_countAt 20 = .ok (.getfield 21, 3) := by decide +kernel
theorem dX8_countAt_23 : decode cX8_countAt 23 = .ok (.iload_n 1, 1) := by decide +kernel
theorem dX8_countAt_24 : decode cX8_countAt 24 = .ok (.bipush 8, 2) := by decide +kernel
theorem dX8_countAt_26 : decode cX8_countAt 26 = .ok (.iadd, 1) := by decide +kernel
theorem dX8_countAt_27 : decode cX8_countAt 27 = .ok (.iaload, 1) := by decide +kernel
theorem dX8_countAt_28 : decode cX8_countAt 28 = .ok (.iadd, 1) := by decide +kernel
theorem dX8_countAt_29 : decode cX8_countAt 29 = .ok (.aload_n 0, 1) := by decide +kernel
theorem dX8_countAt_30 : decode cX8_countAt 30 = .ok (.getfield 21, 3) := by decide +kernel
theorem dX8_countAt_33 : decode cX8_countAt 33 = .ok (.iload_n 1, 1) := by decide +kernel
theorem dX8_countAt_34 : decode cX8_countAt 34 = .ok (.bipush 9, 2) := by decide +kernel
theorem dX8_countAt_36 : decode cX8_countAt 36 = .ok (.iadd, 1) := by decide +kernel
theorem dX8_countAt_37 : decode cX8_countAt 37 = .ok (.iaload, 1) := by decide +kernel
theorem dX8_countAt_38 : decode cX8_countAt 38 = .ok (.iadd, 1) := by decide +kernel
theorem dX8_countAt_39 : decode cX8_countAt 39 = .ok (.ireturn, 1) := by decide +kernel
theorem dX8_classAt_0 : decode cX8_classAt 0 = .ok (.iconst 0, 1) := by decide +kernel
theorem dX8_classAt_1 : decode cX8_classAt 1 = .ok (.istore_n 2, 1) := by decide +kernel
theorem dX8_classAt_2 : decode cX8_classAt 2 = .ok (.iconst 1, 1) := by decide +kernel
theorem dX8_classAt_3 : decode cX8_classAt 3 = .ok (.istore_n 3, 1) := by decide +kernel
theorem dX8_classAt_4 : decode cX8_classAt 4 = .ok (.iload_n 3, 1) := by decide +kernel
theorem dX8_classAt_5 : decode cX8_classAt 5 = .ok (.iconst 4, 1) := by decide +kernel
theorem dX8_classAt_6 : decode cX8_classAt 6 = .ok (.if_icmp .ge 40, 3) := by decide +kernel
theorem dX8_classAt_9 : decode cX8_classAt 9 = .ok (.aload_n 0, 1) := by decide +kernel
theorem dX8_classAt_10 : decode cX8_classAt 10 = .ok (.getfield 21, 3) := by decide +kernel
theorem dX8_classAt_13 : decode cX8_classAt 13 = .ok (.iload_n 1, 1) := by decide +kernel
theorem dX8_classAt_14 : decode cX8_classAt 14 = .ok (.bipush 6, 2) := by decide +kernel
theorem dX8_classAt_16 : decode cX8_classAt 16 = .ok (.iadd, 1) := by decide +kernel
theorem dX8_classAt_17 : decode cX8_classAt 17 = .ok (.iload_n 3, 1) := by decide +kernel
theorem dX8_classAt_18 : decode cX8_classAt 18 = .ok (.iadd, 1) := by decide +kernel
theorem dX8_classAt_19 : decode cX8_classAt 19 = .ok (.iaload, 1) := by decide +kernel
theorem dX8_classAt_20 : decode cX8_classAt 20 = .ok (.aload_n 0, 1) := by decide +kernel
theorem dX8_classAt_21 : decode cX8_classAt 21 = .ok (.getfield 21, 3) := by decide +kernel
theorem dX8_classAt_24 : decode cX8_classAt 24 = .ok (.iload_n 1, 1) := by decide +kernel
theorem dX8_classAt_25 : decode cX8_classAt 25 = .ok (.bipush 6, 2) := by decide +kernel
theorem dX8_classAt_27 : decode cX8_classAt 27 = .ok (.iadd, 1) := by decide +kernel
theorem dX8_classAt_28 : decode cX8_classAt 28 = .ok (.iload_n 2, 1) := by decide +kernel
theorem dX8_classAt_29 : decode cX8_classAt 29 = .ok (.iadd, 1) := by decide +kernel
theorem dX8_classAt_30 : decode cX8_classAt 30 = .ok (.iaload, 1) := by decide +kernel
theorem dX8_classAt_31 : decode cX8_classAt 31 = .ok (.if_icmp .le 7, 3) := by decide +kernel
theorem dX8_classAt_38 : decode cX8_classAt 38 = .ok (.iload_n 2, 1) := by decide +kernel
theorem dX8_classAt_39 : decode cX8_classAt 39 = .ok (.istore_n 2, 1) := by decide +kernel
theorem dX8_classAt_40 : decode cX8_classAt 40 = .ok (.iinc 3 1, 3) := by decide +kernel
theorem dX8_classAt_43 : decode cX8_classAt 43 = .ok (.goto (-39), 3) := by decide +kernel
theorem dX8_classAt_46 : decode cX8_classAt 46 = .ok (.iload_n 2, 1) := by decide +kernel
theorem dX8_classAt_47 : decode cX8_classAt 47 = .ok (.ireturn, 1) := by decide +kernel
theorem dX8_wrongAt_0 : decode cX8_wrongAt 0 = .ok (.aload_n 0, 1) := by decide +kernel
theorem dX8_wrongAt_1 : decode cX8_wrongAt 1 = .ok (.iload_n 1, 1) := by decide +kernel
theorem dX8_wrongAt_2 : decode cX8_wrongAt 2 = .ok (.invokevirtual 75, 3) := by decide +kernel
theorem dX8_wrongAt_5 : decode cX8_wrongAt 5 = .ok (.aload_n 0, 1) := by decide +kernel
theorem dX8_wrongAt_6 : decode cX8_wrongAt 6 = .ok (.getfield 21, 3) := by decide +kernel
theorem dX8_wrongAt_9 : decode cX8_wrongAt 9 = .ok (.iload_n 1, 1) := by decide +kernel
theorem dX8_wrongAt_10 : decode cX8_wrongAt 10 = .ok (.bipush 6, 2) := by decide +kernel
theorem dX8_wrongAt_12 : decode cX8_wrongAt 12 = .ok (.iadd, 1) := by decide +kernel
theorem dX8_wrongAt_13 : decode cX8_wrongAt 13 = .ok (.aload_n 0, 1) := by decide +kernel
theorem dX8_wrongAt_14 : decode cX8_wrongAt 14 = .ok (.iload_n 1, 1) := by decide +kernel
theorem dX8_wrongAt_15 : decode cX8_wrongAt 15 = .ok (.invokevirtual 79, 3) := by decide +kernel
theorem dX8_wrongAt_18 : decode cX8_wrongAt 18 = .ok (.iadd, 1) := by decide +kernel
theorem dX8_wrongAt_19 : decode cX8_wrongAt 19 = .ok (.iaload, 1) := by decide +kernel
theorem dX8_wrongAt_20 : decode cX8_wrongAt 20 = .ok (.isub, 1) := by decide +kernel
theorem dX8_wrongAt_21 : decode cX8_wrongAt 21 = .ok (.ireturn, 1) := by decide +kernel
theorem dX8_countRow_0 : decode cX8_countRow 0 = .ok (.iconst 0, 1) := by decide +kernel
theorem dX8_countRow_1 : decode cX8_countRow 1 = .ok (.istore_n 2, 1) := by decide +kernel
theorem dX8_countRow_2 : decode cX8_countRow 2 = .ok (.iload_n 2, 1) := by decide +kernel
theorem dX8_countRow_3 : decode cX8_countRow 3 = .ok (.iconst 4, 1) := by decide +kernel
theorem dX8_countRow_4 : decode cX8_countRow 4 = .ok (.if_icmp .ge 16, 3) := by decide +kernel
theorem dX8_countRow_7 : decode cX8_countRow 7 = .ok (.aload_n 0, 1) := by decide +kernel
theorem dX8_countRow_8 : decode cX8_countRow 8 = .ok (.getfield 43, 3) := by decide +kernel
theorem dX8_countRow_11 : decode cX8_countRow 11 = .ok (.iload_n 2, 1) := by decide +kernel
theorem dX8_countRow_12 : decode cX8_countRow 12 = .ok (.iconst 0, 1) := by decide +kernel
theorem dX8_countRow_13 : decode cX8_countRow 13 = .ok (.iastore, 1) := by decide +kernel
theorem dX8_countRow_14 : decode cX8_countRow 14 = .ok (.iinc 2 1, 3) := by decide +kernel
theorem dX8_countRow_17 : decode cX8_countRow 17 = .ok (.goto (-15), 3) := by decide +kernel
theorem dX8_countRow_20 : decode cX8_countRow 20 = .ok (.iconst 0, 1) := by decide +kernel
theorem dX8_countRow_21 : decode cX8_countRow 21 = .ok (.istore_n 2, 1) := by decide +kernel
theorem dX8_countRow_22 : decode cX8_countRow 22 = .ok (.iload_n 2, 1) := by decide +kernel
theorem dX8_countRow_23 : decode cX8_countRow 23 = .ok (.aload_n 0, 1) := by decide +kernel
theorem dX8_countRow_24 : decode cX8_countRow 24 = .ok (.getfield 64, 3) := by decide +kernel
theorem dX8_countRow_27 : decode cX8_countRow 27 = .ok (.if_icmp .ge 39, 3) := by decide +kernel
theorem dX8_countRow_66 : decode cX8_countRow 66 = .ok (.return_, 1) := by decide +kernel
theorem dX8_newNode_0 : decode cX8_newNode 0 = .ok (.aload_n 0, 1) := by decide +kernel
theorem dX8_newNode_1 : decode cX8_newNode 1 = .ok (.iload_n 1, 1) := by decide +kernel
theorem dX8_newNode_2 : decode cX8_newNode 2 = .ok (.invokevirtual 93, 3) := by decide +kernel
theorem dX8_newNode_5 : decode cX8_newNode 5 = .ok (.aload_n 0, 1) := by decide +kernel
theorem dX8_newNode_6 : decode cX8_newNode 6 = .ok (.getfield 24, 3) := by decide +kernel
theorem dX8_newNode_9 : decode cX8_newNode 9 = .ok (.aload_n 0, 1) := by decide +kernel
theorem dX8_newNode_10 : decode cX8_newNode 10 = .ok (.getfield 111, 3) := by decide +kernel
theorem dX8_newNode_13 : decode cX8_newNode 13 = .ok (.iaload, 1) := by decide +kernel
theorem dX8_newNode_14 : decode cX8_newNode 14 = .ok (.istore_n 2, 1) := by decide +kernel
theorem dX8_newNode_15 : decode cX8_newNode 15 = .ok (.aload_n 0, 1) := by decide +kernel
theorem dX8_newNode_16 : decode cX8_newNode 16 = .ok (.aload_n 0, 1) := by decide +kernel
theorem dX8_newNode_17 : decode cX8_newNode 17 = .ok (.getfield 111, 3) := by decide +kernel
theorem dX8_newNode_20 : decode cX8_newNode 20 = .ok (.iload_n 2, 1) := by decide +kernel
theorem dX8_newNode_21 : decode cX8_newNode 21 = .ok (.invokevirtual 114, 3) := by decide +kernel
theorem dX8_newNode_24 : decode cX8_newNode 24 = .ok (.istore_n 3, 1) := by decide +kernel
theorem dX8_newNode_25 : decode cX8_newNode 25 = .ok (.aload_n 0, 1) := by decide +kernel
theorem dX8_newNode_26 : decode cX8_newNode 26 = .ok (.getfield 21, 3) := by decide +kernel
theorem dX8_newNode_29 : decode cX8_newNode 29 = .ok (.iload_n 3, 1) := by decide +kernel
theorem dX8_newNode_30 : decode cX8_newNode 30 = .ok (.iconst (-1), 1) := by decide +kernel
theorem dX8_newNode_31 : decode cX8_newNode 31 = .ok (.iastore, 1) := by decide +kernel
theorem dX8_newNode_32 : decode cX8_newNode 32 = .ok (.aload_n 0, 1) := by decide +kernel
theorem dX8_newNode_33 : decode cX8_newNode 33 = .ok (.getfield 21, 3) := by decide +kernel
theorem dX8_newNode_36 : decode cX8_newNode 36 = .ok (.iload_n 3, 1) := by decide +kernel
theorem dX8_newNode_37 : decode cX8_newNode 37 = .ok (.iconst 1, 1) := by decide +kernel
theorem dX8_newNode_38 : decode cX8_newNode 38 = .ok (.iadd, 1) := by decide +kernel
theorem dX8_newNode_39 : decode cX8_newNode 39 = .ok (.iconst 0, 1) := by decide +kernel
theorem dX8_newNode_40 : decode cX8_newNode 40 = .ok (.iastore, 1) := by decide +kernel
theorem dX8_newNode_41 : decode cX8_newNode 41 = .ok (.aload_n 0, 1) := by decide +kernel
theorem dX8_newNode_42 : decode cX8_newNode 42 = .ok (.getfield 21, 3) := by decide +kernel
theorem dX8_newNode_45 : decode cX8_newNode 45 = .ok (.iload_n 3, 1) := by decide +kernel
theorem dX8_newNode_46 : decode cX8_newNode 46 = .ok (.iconst 2, 1) := by decide +kernel
theorem dX8_newNode_47 : decode cX8_newNode 47 = .ok (.iadd, 1) := by decide +kernel
theorem dX8_newNode_48 : decode cX8_newNode 48 = .ok (.iconst (-1), 1) := by decide +kernel
theorem dX8_newNode_49 : decode cX8_newNode 49 = .ok (.iastore, 1) := by decide +kernel
theorem dX8_newNode_50 : decode cX8_newNode 50 = .ok (.aload_n 0, 1) := by decide +kernel
theorem dX8_newNode_51 : decode cX8_newNode 51 = .ok (.getfield 21, 3) := by decide +kernel
theorem dX8_newNode_54 : decode cX8_newNode 54 = .ok (.iload_n 3, 1) := by decide +kernel
theorem dX8_newNode_55 : decode cX8_newNode 55 = .ok (.iconst 3, 1) := by decide +kernel
theorem dX8_newNode_56 : decode cX8_newNode 56 = .ok (.iadd, 1) := by decide +kernel
theorem dX8_newNode_57 : decode cX8_newNode 57 = .ok (.iconst (-1), 1) := by decide +kernel
theorem dX8_newNode_58 : decode cX8_newNode 58 = .ok (.iastore, 1) := by decide +kernel
theorem dX8_newNode_59 : decode cX8_newNode 59 = .ok (.aload_n 0, 1) := by decide +kernel
theorem dX8_newNode_60 : decode cX8_newNode 60 = .ok (.getfield 21, 3) := by decide +kernel
theorem dX8_newNode_63 : decode cX8_newNode 63 = .ok (.iload_n 3, 1) := by decide +kernel
theorem dX8_newNode_64 : decode cX8_newNode 64 = .ok (.iconst 4, 1) := by decide +kernel
theorem dX8_newNode_65 : decode cX8_newNode 65 = .ok (.iadd, 1) := by decide +kernel
theorem dX8_newNode_66 : decode cX8_newNode 66 = .ok (.iload_n 1, 1) := by decide +kernel
theorem dX8_newNode_67 : decode cX8_newNode 67 = .ok (.iastore, 1) := by decide +kernel
theorem dX8_newNode_68 : decode cX8_newNode 68 = .ok (.aload_n 0, 1) := by decide +kernel
theorem dX8_newNode_69 : decode cX8_newNode 69 = .ok (.getfield 21, 3) := by decide +kernel
theorem dX8_newNode_72 : decode cX8_newNode 72 = .ok (.iload_n 3, 1) := by decide +kernel
theorem dX8_newNode_73 : decode cX8_newNode 73 = .ok (.iconst 5, 1) := by decide +kernel
theorem dX8_newNode_74 : decode cX8_newNode 74 = .ok (.iadd, 1) := by decide +kernel
theorem dX8_newNode_75 : decode cX8_newNode 75 = .ok (.iconst 0, 1) := by decide +kernel
theorem dX8_newNode_76 : decode cX8_newNode 76 = .ok (.iastore, 1) := by decide +kernel
theorem dX8_newNode_77 : decode cX8_newNode 77 = .ok (.iconst 0, 1) := by decide +kernel
theorem dX8_newNode_78 : decode cX8_newNode 78 = .ok (.istore 4, 2) := by decide +kernel
theorem dX8_newNode_80 : decode cX8_newNode 80 = .ok (.iload 4, 2) := by decide +kernel
theorem dX8_newNode_82 : decode cX8_newNode 82 = .ok (.iconst 4, 1) := by decide +kernel
theorem dX8_newNode_83 : decode cX8_newNode 83 = .ok (.if_icmp .ge 28, 3) := by decide +kernel
theorem dX8_newNode_86 : decode cX8_newNode 86 = .ok (.aload_n 0, 1) := by decide +kernel
theorem dX8_newNode_87 : decode cX8_newNode 87 = .ok (.getfield 21, 3) := by decide +kernel
theorem dX8_newNode_90 : decode cX8_newNode 90 = .ok (.iload_n 3, 1) := by decide +kernel
theorem dX8_newNode_91 : decode cX8_newNode 91 = .ok (.bipush 6, 2) := by decide +kernel
theorem dX8_newNode_93 : decode cX8_newNode 93 = .ok (.iadd, 1) := by decide +kernel
theorem dX8_newNode_94 : decode cX8_newNode 94 = .ok (.iload 4, 2) := by decide +kernel
theorem dX8_newNode_96 : decode cX8_newNode 96 = .ok (.iadd, 1) := by decide +kernel
theorem dX8_newNode_97 : decode cX8_newNode 97 = .ok (.aload_n 0, 1) := by decide +kernel
theorem dX8_newNode_98 : decode cX8_newNode 98 = .ok (.getfield 43, 3) := by decide +kernel
theorem dX8_newNode_101 : decode cX8_newNode 101 = .ok (.iload 4, 2) := by decide +kernel
theorem dX8_newNode_103 : decode cX8_newNode 103 = .ok (.iaload, 1) := by decide +kernel
theorem dX8_newNode_104 : decode cX8_newNode 104 = .ok (.iastore, 1) := by decide +kernel
theorem dX8_newNode_105 : decode cX8_newNode 105 = .ok (.iinc 4 1, 3) := by decide +kernel
theorem dX8_newNode_108 : decode cX8_newNode 108 = .ok (.goto (-28), 3) := by decide +kernel
theorem dX8_newNode_111 : decode cX8_newNode 111 = .ok (.aload_n 0, 1) := by decide +kernel
theorem dX8_newNode_112 : decode cX8_newNode 112 = .ok (.getfield 24, 3) := by decide +kernel
theorem dX8_newNode_115 : decode cX8_newNode 115 = .ok (.aload_n 0, 1) := by decide +kernel
theorem dX8_newNode_116 : decode cX8_newNode 116 = .ok (.getfield 111, 3) := by decide +kernel
theorem dX8_newNode_119 : decode cX8_newNode 119 = .ok (.dup2, 1) := by decide +kernel
theorem dX8_newNode_120 : decode cX8_newNode 120 = .ok (.iaload, 1) := by decide +kernel
theorem dX8_newNode_121 : decode cX8_newNode 121 = .ok (.iconst 1, 1) := by decide +kernel
theorem dX8_newNode_122 : decode cX8_newNode 122 = .ok (.iadd, 1) := by decide +kernel
theorem dX8_newNode_123 : decode cX8_newNode 123 = .ok (.iastore, 1) := by decide +kernel
theorem dX8_newNode_124 : decode cX8_newNode 124 = .ok (.iload_n 2, 1) := by decide +kernel
theorem dX8_newNode_125 : decode cX8_newNode 125 = .ok (.ireturn, 1) := by decide +kernel
theorem dX8_growNode_0 : decode cX8_growNode 0 = .ok (.aload_n 0, 1) := by decide +kernel
theorem dX8_growNode_1 : decode cX8_growNode 1 = .ok (.iload_n 1, 1) := by decide +kernel
theorem dX8_growNode_2 : decode cX8_growNode 2 = .ok (.invokevirtual 118, 3) := by decide +kernel
theorem dX8_growNode_5 : decode cX8_growNode 5 = .ok (.istore 4, 2) := by decide +kernel
theorem dX8_growNode_7 : decode cX8_growNode 7 = .ok (.aload_n 0, 1) := by decide +kernel
theorem dX8_growNode_8 : decode cX8_growNode 8 = .ok (.aload_n 0, 1) := by decide +kernel
theorem dX8_growNode_9 : decode cX8_growNode 9 = .ok (.getfield 111, 3) := by decide +kernel
theorem dX8_growNode_12 : decode cX8_growNode 12 = .ok (.iload 4, 2) := by decide +kernel
theorem dX8_growNode_14 : decode cX8_growNode 14 = .ok (.invokevirtual 114, 3) := by decide +kernel
theorem dX8_growNode_17 : decode cX8_growNode 17 = .ok (.istore 5, 2) := by decide +kernel
theorem dX8_growNode_19 : decode cX8_growNode 19 = .ok (.iload_n 1, 1) := by decide +kernel
theorem dX8_growNode_20 : decode cX8_growNode 20 = .ok (.iload_n 2, 1) := by decide +kernel
theorem dX8_growNode_21 : decode cX8_growNode 21 = .ok (.if_icmp .eq 21, 3) := by decide +kernel
theorem dX8_growNode_24 : decode cX8_growNode 24 = .ok (.aload_n 0, 1) := by decide +kernel
theorem dX8_growNode_25 : decode cX8_growNode 25 = .ok (.iload 5, 2) := by decide +kernel
theorem dX8_growNode_27 : decode cX8_growNode 27 = .ok (.invokevirtual 121, 3) := by decide +kernel
theorem dX8_growNode_30 : decode cX8_growNode 30 = .ok (.ifCond .eq 12, 3) := by decide +kernel
theorem dX8_growNode_42 : decode cX8_growNode 42 = .ok (.iload 4, 2) := by decide +kernel
theorem dX8_growNode_44 : decode cX8_growNode 44 = .ok (.ireturn, 1) := by decide +kernel
theorem dX8_areGrowing_0 : decode cX8_areGrowing 0 = .ok (.iload_n 0, 1) := by decide +kernel
theorem dX8_areGrowing_1 : decode cX8_areGrowing 1 = .ok (.ifCond .lt 24, 3) := by decide +kernel
theorem dX8_areGrowing_4 : decode cX8_areGrowing 4 = .ok (.iload_n 0, 1) := by decide +kernel
theorem dX8_areGrowing_5 : decode cX8_areGrowing 5 = .ok (.bipush 8, 2) := by decide +kernel
theorem dX8_areGrowing_7 : decode cX8_areGrowing 7 = .ok (.if_icmp .gt 18, 3) := by decide +kernel
theorem dX8_areGrowing_10 : decode cX8_areGrowing 10 = .ok (.iload_n 1, 1) := by decide +kernel
theorem dX8_areGrowing_11 : decode cX8_areGrowing 11 = .ok (.iconst 1, 1) := by decide +kernel
theorem dX8_areGrowing_12 : decode cX8_areGrowing 12 = .ok (.if_icmp .lt 13, 3) := by decide +kernel
theorem dX8_areGrowing_15 : decode cX8_areGrowing 15 = .ok (.iload_n 1, 1) := by decide +kernel
theorem dX8_areGrowing_16 : decode cX8_areGrowing 16 = .ok (.bipush 100, 2) := by decide +kernel
theorem dX8_areGrowing_18 : decode cX8_areGrowing 18 = .ok (.if_icmp .gt 7, 3) := by decide +kernel
theorem dX8_areGrowing_21 : decode cX8_areGrowing 21 = .ok (.iconst 1, 1) := by decide +kernel
theorem dX8_areGrowing_22 : decode cX8_areGrowing 22 = .ok (.goto 4, 3) := by decide +kernel
theorem dX8_areGrowing_25 : decode cX8_areGrowing 25 = .ok (.iconst 0, 1) := by decide +kernel
theorem dX8_areGrowing_26 : decode cX8_areGrowing 26 = .ok (.ireturn, 1) := by decide +kernel
theorem dX8_grow_0 : decode cX8_grow 0 = .ok (.iload_n 1, 1) := by decide +kernel
theorem dX8_grow_1 : decode cX8_grow 1 = .ok (.iload_n 2, 1) := by decide +kernel
theorem dX8_grow_2 : decode cX8_grow 2 = .ok (.invokestatic 140, 3) := by decide +kernel
theorem dX8_grow_5 : decode cX8_grow 5 = .ok (.ifCond .ne 5, 3) := by decide +kernel
theorem dX8_grow_8 : decode cX8_grow 8 = .ok (.iconst (-1), 1) := by decide +kernel
theorem dX8_grow_9 : decode cX8_grow 9 = .ok (.ireturn, 1) := by decide +kernel
theorem dX8_grow_10 : decode cX8_grow 10 = .ok (.aload_n 0, 1) := by decide +kernel
theorem dX8_grow_11 : decode cX8_grow 11 = .ok (.getfield 67, 3) := by decide +kernel
theorem dX8_grow_14 : decode cX8_grow 14 = .ok (.bipush 20, 2) := by decide +kernel
theorem dX8_grow_16 : decode cX8_grow 16 = .ok (.if_icmp .ne 6, 3) := by decide +kernel
theorem dX8_grow_22 : decode cX8_grow 22 = .ok (.iconst 0, 1) := by decide +kernel
theorem dX8_grow_23 : decode cX8_grow 23 = .ok (.istore_n 3, 1) := by decide +kernel
theorem dX8_grow_24 : decode cX8_grow 24 = .ok (.iload_n 3, 1) := by decide +kernel
theorem dX8_grow_25 : decode cX8_grow 25 = .ok (.aload_n 0, 1) := by decide +kernel
theorem dX8_grow_26 : decode cX8_grow 26 = .ok (.getfield 64, 3) := by decide +kernel
theorem dX8_grow_29 : decode cX8_grow 29 = .ok (.if_icmp .ge 16, 3) := by decide +kernel
theorem dX8_grow_45 : decode cX8_grow 45 = .ok (.aload_n 0, 1) := by decide +kernel
theorem dX8_grow_46 : decode cX8_grow 46 = .ok (.aload_n 0, 1) := by decide +kernel
theorem dX8_grow_47 : decode cX8_grow 47 = .ok (.getfield 67, 3) := by decide +kernel
theorem dX8_grow_50 : decode cX8_grow 50 = .ok (.putfield 111, 3) := by decide +kernel
theorem dX8_grow_53 : decode cX8_grow 53 = .ok (.aload_n 0, 1) := by decide +kernel
theorem dX8_grow_54 : decode cX8_grow 54 = .ok (.getfield 24, 3) := by decide +kernel
theorem dX8_grow_57 : decode cX8_grow 57 = .ok (.aload_n 0, 1) := by decide +kernel
theorem dX8_grow_58 : decode cX8_grow 58 = .ok (.getfield 111, 3) := by decide +kernel
theorem dX8_grow_61 : decode cX8_grow 61 = .ok (.iconst 0, 1) := by decide +kernel
theorem dX8_grow_62 : decode cX8_grow 62 = .ok (.iastore, 1) := by decide +kernel
theorem dX8_grow_63 : decode cX8_grow 63 = .ok (.aload_n 0, 1) := by decide +kernel
theorem dX8_grow_64 : decode cX8_grow 64 = .ok (.iconst 0, 1) := by decide +kernel
theorem dX8_grow_65 : decode cX8_grow 65 = .ok (.iload_n 1, 1) := by decide +kernel
theorem dX8_grow_66 : decode cX8_grow 66 = .ok (.iload_n 2, 1) := by decide +kernel
theorem dX8_grow_67 : decode cX8_grow 67 = .ok (.invokevirtual 136, 3) := by decide +kernel
theorem dX8_grow_70 : decode cX8_grow 70 = .ok (.istore_n 3, 1) := by decide +kernel
theorem dX8_grow_71 : decode cX8_grow 71 = .ok (.aload_n 0, 1) := by decide +kernel
theorem dX8_grow_72 : decode cX8_grow 72 = .ok (.dup, 1) := by decide +kernel
theorem dX8_grow_73 : decode cX8_grow 73 = .ok (.getfield 67, 3) := by decide +kernel
theorem dX8_grow_76 : decode cX8_grow 76 = .ok (.iconst 1, 1) := by decide +kernel
theorem dX8_grow_77 : decode cX8_grow 77 = .ok (.iadd, 1) := by decide +kernel
theorem dX8_grow_78 : decode cX8_grow 78 = .ok (.putfield 67, 3) := by decide +kernel
theorem dX8_grow_81 : decode cX8_grow 81 = .ok (.aload_n 0, 1) := by decide +kernel
theorem dX8_grow_82 : decode cX8_grow 82 = .ok (.getfield 67, 3) := by decide +kernel
theorem dX8_grow_85 : decode cX8_grow 85 = .ok (.iconst 1, 1) := by decide +kernel
theorem dX8_grow_86 : decode cX8_grow 86 = .ok (.isub, 1) := by decide +kernel
theorem dX8_grow_87 : decode cX8_grow 87 = .ok (.ireturn, 1) := by decide +kernel
theorem dX8_search_0 : decode cX8_search 0 = .ok (.aload_n 0, 1) := by decide +kernel
theorem dX8_search_1 : decode cX8_search 1 = .ok (.iload_n 1, 1) := by decide +kernel
theorem dX8_search_2 : decode cX8_search 2 = .ok (.invokevirtual 93, 3) := by decide +kernel
theorem dX8_search_5 : decode cX8_search 5 = .ok (.aload_n 0, 1) := by decide +kernel
theorem dX8_search_6 : decode cX8_search 6 = .ok (.getfield 43, 3) := by decide +kernel
theorem dX8_search_9 : decode cX8_search 9 = .ok (.iconst 0, 1) := by decide +kernel
theorem dX8_search_10 : decode cX8_search 10 = .ok (.iaload, 1) := by decide +kernel
theorem dX8_search_11 : decode cX8_search 11 = .ok (.aload_n 0, 1) := by decide +kernel
theorem dX8_search_12 : decode cX8_search 12 = .ok (.getfield 43, 3) := by decide +kernel
theorem dX8_search_15 : decode cX8_search 15 = .ok (.iconst 1, 1) := by decide +kernel
theorem dX8_search_16 : decode cX8_search 16 = .ok (.iaload, 1) := by decide +kernel
theorem dX8_search_17 : decode cX8_search 17 = .ok (.iadd, 1) := by decide +kernel
theorem dX8_search_18 : decode cX8_search 18 = .ok (.aload_n 0, 1) := by decide +kernel
theorem dX8_search_19 : decode cX8_search 19 = .ok (.getfield 43, 3) := by decide +kernel
theorem dX8_search_22 : decode cX8_search 22 = .ok (.iconst 2, 1) := by decide +kernel
theorem dX8_search_23 : decode cX8_search 23 = .ok (.iaload, 1) := by decide +kernel
theorem dX8_search_24 : decode cX8_search 24 = .ok (.iadd, 1) := by decide +kernel
theorem dX8_search_25 : decode cX8_search 25 = .ok (.aload_n 0, 1) := by decide +kernel
theorem dX8_search_26 : decode cX8_search 26 = .ok (.getfield 43, 3) := by decide +kernel
theorem dX8_search_29 : decode cX8_search 29 = .ok (.iconst 3, 1) := by decide +kernel
theorem dX8_search_30 : decode cX8_search 30 = .ok (.iaload, 1) := by decide +kernel
theorem dX8_search_31 : decode cX8_search 31 = .ok (.iadd, 1) := by decide +kernel
theorem dX8_search_32 : decode cX8_search 32 = .ok (.istore_n 3, 1) := by decide +kernel
theorem dX8_search_33 : decode cX8_search 33 = .ok (.iconst 0, 1) := by decide +kernel
theorem dX8_search_34 : decode cX8_search 34 = .ok (.istore 4, 2) := by decide +kernel
theorem dX8_search_36 : decode cX8_search 36 = .ok (.iconst 0, 1) := by decide +kernel
theorem dX8_search_37 : decode cX8_search 37 = .ok (.istore 5, 2) := by decide +kernel
theorem dX8_search_39 : decode cX8_search 39 = .ok (.iload 5, 2) := by decide +kernel
theorem dX8_search_41 : decode cX8_search 41 = .ok (.iconst 4, 1) := by decide +kernel
theorem dX8_search_42 : decode cX8_search 42 = .ok (.if_icmp .ge 35, 3) := by decide +kernel
theorem dX8_search_45 : decode cX8_search 45 = .ok (.aload_n 0, 1) := by decide +kernel
theorem dX8_search_46 : decode cX8_search 46 = .ok (.getfield 43, 3) := by decide +kernel
theorem dX8_search_49 : decode cX8_search 49 = .ok (.iload 5, 2) := by decide +kernel
theorem dX8_search_51 : decode cX8_search 51 = .ok (.iaload, 1) := by decide +kernel
theorem dX8_search_52 : decode cX8_search 52 = .ok (.iload 4, 2) := by decide +kernel
theorem dX8_search_54 : decode cX8_search 54 = .ok (.if_icmp .le 13, 3) := by decide +kernel
theorem dX8_search_67 : decode cX8_search 67 = .ok (.iload 4, 2) := by decide +kernel
theorem dX8_search_69 : decode cX8_search 69 = .ok (.istore 4, 2) := by decide +kernel
theorem dX8_search_71 : decode cX8_search 71 = .ok (.iinc 5 1, 3) := by decide +kernel
theorem dX8_search_74 : decode cX8_search 74 = .ok (.goto (-35), 3) := by decide +kernel
theorem dX8_search_77 : decode cX8_search 77 = .ok (.iload_n 3, 1) := by decide +kernel
theorem dX8_search_78 : decode cX8_search 78 = .ok (.iload 4, 2) := by decide +kernel
theorem dX8_search_80 : decode cX8_search 80 = .ok (.isub, 1) := by decide +kernel
theorem dX8_search_81 : decode cX8_search 81 = .ok (.istore 5, 2) := by decide +kernel
theorem dX8_search_83 : decode cX8_search 83 = .ok (.iconst 0, 1) := by decide +kernel
theorem dX8_search_84 : decode cX8_search 84 = .ok (.istore 6, 2) := by decide +kernel
theorem dX8_search_86 : decode cX8_search 86 = .ok (.iconst (-1), 1) := by decide +kernel
theorem dX8_search_87 : decode cX8_search 87 = .ok (.istore 7, 2) := by decide +kernel
theorem dX8_search_89 : decode cX8_search 89 = .ok (.iconst 0, 1) := by decide +kernel
theorem dX8_search_90 : decode cX8_search 90 = .ok (.istore 8, 2) := by decide +kernel
theorem dX8_search_92 : decode cX8_search 92 = .ok (.iconst 0, 1) := by decide +kernel
theorem dX8_search_93 : decode cX8_search 93 = .ok (.istore 9, 2) := by decide +kernel
theorem dX8_search_95 : decode cX8_search 95 = .ok (.iload 9, 2) := by decide +kernel
theorem dX8_search_97 : decode cX8_search 97 = .ok (.bipush 8, 2) := by decide +kernel
theorem dX8_search_99 : decode cX8_search 99 = .ok (.if_icmp .ge 234, 3) := by decide +kernel
theorem dX8_search_102 : decode cX8_search 102 = .ok (.iload_n 2, 1) := by decide +kernel
theorem dX8_search_103 : decode cX8_search 103 = .ok (.ifCond .le 230, 3) := by decide +kernel
theorem dX8_search_106 : decode cX8_search 106 = .ok (.iconst 0, 1) := by decide +kernel
theorem dX8_search_107 : decode cX8_search 107 = .ok (.istore 10, 2) := by decide +kernel
theorem dX8_search_109 : decode cX8_search 109 = .ok (.iload 10, 2) := by decide +kernel
theorem dX8_search_111 : decode cX8_search 111 = .ok (.aload_n 0, 1) := by decide +kernel
theorem dX8_search_112 : decode cX8_search 112 = .ok (.getfield 64, 3) := by decide +kernel
theorem dX8_search_115 : decode cX8_search 115 = .ok (.if_icmp .ge 212, 3) := by decide +kernel
theorem dX8_search_327 : decode cX8_search 327 = .ok (.iinc 9 1, 3) := by decide +kernel
theorem dX8_search_330 : decode cX8_search 330 = .ok (.goto (-235), 3) := by decide +kernel
theorem dX8_search_333 : decode cX8_search 333 = .ok (.aload_n 0, 1) := by decide +kernel
theorem dX8_search_334 : decode cX8_search 334 = .ok (.getfield 52, 3) := by decide +kernel
theorem dX8_search_337 : decode cX8_search 337 = .ok (.iload_n 1, 1) := by decide +kernel
theorem dX8_search_338 : decode cX8_search 338 = .ok (.iload 5, 2) := by decide +kernel
theorem dX8_search_340 : decode cX8_search 340 = .ok (.iastore, 1) := by decide +kernel
theorem dX8_search_341 : decode cX8_search 341 = .ok (.aload_n 0, 1) := by decide +kernel
theorem dX8_search_342 : decode cX8_search 342 = .ok (.getfield 55, 3) := by decide +kernel
theorem dX8_search_345 : decode cX8_search 345 = .ok (.iload_n 1, 1) := by decide +kernel
theorem dX8_search_346 : decode cX8_search 346 = .ok (.iload 6, 2) := by decide +kernel
theorem dX8_search_348 : decode cX8_search 348 = .ok (.iastore, 1) := by decide +kernel
theorem dX8_search_349 : decode cX8_search 349 = .ok (.aload_n 0, 1) := by decide +kernel
theorem dX8_search_350 : decode cX8_search 350 = .ok (.getfield 58, 3) := by decide +kernel
theorem dX8_search_353 : decode cX8_search 353 = .ok (.iload_n 1, 1) := by decide +kernel
theorem dX8_search_354 : decode cX8_search 354 = .ok (.iload 7, 2) := by decide +kernel
theorem dX8_search_356 : decode cX8_search 356 = .ok (.iastore, 1) := by decide +kernel
theorem dX8_search_357 : decode cX8_search 357 = .ok (.aload_n 0, 1) := by decide +kernel
theorem dX8_search_358 : decode cX8_search 358 = .ok (.getfield 61, 3) := by decide +kernel
theorem dX8_search_361 : decode cX8_search 361 = .ok (.iload_n 1, 1) := by decide +kernel
theorem dX8_search_362 : decode cX8_search 362 = .ok (.iload 8, 2) := by decide +kernel
theorem dX8_search_364 : decode cX8_search 364 = .ok (.iastore, 1) := by decide +kernel
theorem dX8_search_365 : decode cX8_search 365 = .ok (.return_, 1) := by decide +kernel
theorem dX8_bestNode_0 : decode cX8_bestNode 0 = .ok (.aload_n 0, 1) := by decide +kernel
theorem dX8_bestNode_1 : decode cX8_bestNode 1 = .ok (.iload_n 1, 1) := by decide +kernel
theorem dX8_bestNode_2 : decode cX8_bestNode 2 = .ok (.invokevirtual 118, 3) := by decide +kernel
theorem dX8_bestNode_5 : decode cX8_bestNode 5 = .ok (.istore_n 3, 1) := by decide +kernel
theorem dX8_bestNode_6 : decode cX8_bestNode 6 = .ok (.aload_n 0, 1) := by decide +kernel
theorem dX8_bestNode_7 : decode cX8_bestNode 7 = .ok (.iload_n 1, 1) := by decide +kernel
theorem dX8_bestNode_8 : decode cX8_bestNode 8 = .ok (.iload_n 2, 1) := by decide +kernel
theorem dX8_bestNode_9 : decode cX8_bestNode 9 = .ok (.invokevirtual 146, 3) := by decide +kernel
theorem dX8_bestNode_12 : decode cX8_bestNode 12 = .ok (.aload_n 0, 1) := by decide +kernel
theorem dX8_bestNode_13 : decode cX8_bestNode 13 = .ok (.getfield 58, 3) := by decide +kernel
theorem dX8_bestNode_16 : decode cX8_bestNode 16 = .ok (.iload_n 1, 1) := by decide +kernel
theorem dX8_bestNode_17 : decode cX8_bestNode 17 = .ok (.iaload, 1) := by decide +kernel
theorem dX8_bestNode_18 : decode cX8_bestNode 18 = .ok (.istore 4, 2) := by decide +kernel
theorem dX8_bestNode_20 : decode cX8_bestNode 20 = .ok (.aload_n 0, 1) := by decide +kernel
theorem dX8_bestNode_21 : decode cX8_bestNode 21 = .ok (.getfield 61, 3) := by decide +kernel
theorem dX8_bestNode_24 : decode cX8_bestNode 24 = .ok (.iload_n 1, 1) := by decide +kernel
theorem dX8_bestNode_25 : decode cX8_bestNode 25 = .ok (.iaload, 1) := by decide +kernel
theorem dX8_bestNode_26 : decode cX8_bestNode 26 = .ok (.istore 5, 2) := by decide +kernel
theorem dX8_bestNode_28 : decode cX8_bestNode 28 = .ok (.iload 4, 2) := by decide +kernel
theorem dX8_bestNode_30 : decode cX8_bestNode 30 = .ok (.ifCond .ge 5, 3) := by decide +kernel
theorem dX8_bestNode_33 : decode cX8_bestNode 33 = .ok (.iload_n 3, 1) := by decide +kernel
theorem dX8_bestNode_34 : decode cX8_bestNode 34 = .ok (.ireturn, 1) := by decide +kernel
theorem dX8_best_0 : decode cX8_best 0 = .ok (.iload_n 1, 1) := by decide +kernel
theorem dX8_best_1 : decode cX8_best 1 = .ok (.ifCond .lt 8, 3) := by decide +kernel
theorem dX8_best_4 : decode cX8_best 4 = .ok (.iload_n 1, 1) := by decide +kernel
theorem dX8_best_5 : decode cX8_best 5 = .ok (.iconst 2, 1) := by decide +kernel
theorem dX8_best_6 : decode cX8_best 6 = .ok (.if_icmp .le 5, 3) := by decide +kernel
theorem dX8_best_9 : decode cX8_best 9 = .ok (.iconst (-1), 1) := by decide +kernel
theorem dX8_best_10 : decode cX8_best 10 = .ok (.ireturn, 1) := by decide +kernel
theorem dX8_best_11 : decode cX8_best 11 = .ok (.aload_n 0, 1) := by decide +kernel
theorem dX8_best_12 : decode cX8_best 12 = .ok (.getfield 64, 3) := by decide +kernel
theorem dX8_best_15 : decode cX8_best 15 = .ok (.bipush 50, 2) := by decide +kernel
theorem dX8_best_17 : decode cX8_best 17 = .ok (.if_icmp .le 6, 3) := by decide +kernel
theorem dX8_best_23 : decode cX8_best 23 = .ok (.iconst 0, 1) := by decide +kernel
theorem dX8_best_24 : decode cX8_best 24 = .ok (.istore_n 2, 1) := by decide +kernel
theorem dX8_best_25 : decode cX8_best 25 = .ok (.iload_n 2, 1) := by decide +kernel
theorem dX8_best_26 : decode cX8_best 26 = .ok (.bipush 8, 2) := by decide +kernel
theorem dX8_best_28 : decode cX8_best 28 = .ok (.aload_n 0, 1) := by decide +kernel
theorem dX8_best_29 : decode cX8_best 29 = .ok (.getfield 64, 3) := by decide +kernel
theorem dX8_best_32 : decode cX8_best 32 = .ok (.imul, 1) := by decide +kernel
theorem dX8_best_33 : decode cX8_best 33 = .ok (.if_icmp .ge 24, 3) := by decide +kernel
theorem dX8_best_57 : decode cX8_best 57 = .ok (.aload_n 0, 1) := by decide +kernel
theorem dX8_best_58 : decode cX8_best 58 = .ok (.getfield 67, 3) := by decide +kernel
theorem dX8_best_61 : decode cX8_best 61 = .ok (.bipush 20, 2) := by decide +kernel
theorem dX8_best_63 : decode cX8_best 63 = .ok (.if_icmp .ne 6, 3) := by decide +kernel
theorem dX8_best_69 : decode cX8_best 69 = .ok (.iconst 0, 1) := by decide +kernel
theorem dX8_best_70 : decode cX8_best 70 = .ok (.istore_n 2, 1) := by decide +kernel
theorem dX8_best_71 : decode cX8_best 71 = .ok (.iload_n 2, 1) := by decide +kernel
theorem dX8_best_72 : decode cX8_best 72 = .ok (.aload_n 0, 1) := by decide +kernel
theorem dX8_best_73 : decode cX8_best 73 = .ok (.getfield 64, 3) := by decide +kernel
theorem dX8_best_76 : decode cX8_best 76 = .ok (.if_icmp .ge 16, 3) := by decide +kernel
theorem dX8_best_92 : decode cX8_best 92 = .ok (.aload_n 0, 1) := by decide +kernel
theorem dX8_best_93 : decode cX8_best 93 = .ok (.aload_n 0, 1) := by decide +kernel
theorem dX8_best_94 : decode cX8_best 94 = .ok (.getfield 67, 3) := by decide +kernel
theorem dX8_best_97 : decode cX8_best 97 = .ok (.putfield 111, 3) := by decide +kernel
theorem dX8_best_100 : decode cX8_best 100 = .ok (.aload_n 0, 1) := by decide +kernel
theorem dX8_best_101 : decode cX8_best 101 = .ok (.getfield 24, 3) := by decide +kernel
theorem dX8_best_104 : decode cX8_best 104 = .ok (.aload_n 0, 1) := by decide +kernel
theorem dX8_best_105 : decode cX8_best 105 = .ok (.getfield 111, 3) := by decide +kernel
theorem dX8_best_108 : decode cX8_best 108 = .ok (.iconst 0, 1) := by decide +kernel
theorem dX8_best_109 : decode cX8_best 109 = .ok (.iastore, 1) := by decide +kernel
theorem dX8_best_110 : decode cX8_best 110 = .ok (.aload_n 0, 1) := by decide +kernel
theorem dX8_best_111 : decode cX8_best 111 = .ok (.iconst 0, 1) := by decide +kernel
theorem dX8_best_112 : decode cX8_best 112 = .ok (.iload_n 1, 1) := by decide +kernel
theorem dX8_best_113 : decode cX8_best 113 = .ok (.invokevirtual 150, 3) := by decide +kernel
theorem dX8_best_116 : decode cX8_best 116 = .ok (.istore_n 2, 1) := by decide +kernel
theorem dX8_best_117 : decode cX8_best 117 = .ok (.aload_n 0, 1) := by decide +kernel
theorem dX8_best_118 : decode cX8_best 118 = .ok (.dup, 1) := by decide +kernel
theorem dX8_best_119 : decode cX8_best 119 = .ok (.getfield 67, 3) := by decide +kernel
theorem dX8_best_122 : decode cX8_best 122 = .ok (.iconst 1, 1) := by decide +kernel
theorem dX8_best_123 : decode cX8_best 123 = .ok (.iadd, 1) := by decide +kernel
theorem dX8_best_124 : decode cX8_best 124 = .ok (.putfield 67, 3) := by decide +kernel
theorem dX8_best_127 : decode cX8_best 127 = .ok (.aload_n 0, 1) := by decide +kernel
theorem dX8_best_128 : decode cX8_best 128 = .ok (.getfield 67, 3) := by decide +kernel
theorem dX8_best_131 : decode cX8_best 131 = .ok (.iconst 1, 1) := by decide +kernel
theorem dX8_best_132 : decode cX8_best 132 = .ok (.isub, 1) := by decide +kernel
theorem dX8_best_133 : decode cX8_best 133 = .ok (.ireturn, 1) := by decide +kernel
theorem dX8_isTree_0 : decode cX8_isTree 0 = .ok (.iload_n 1, 1) := by decide +kernel
theorem dX8_isTree_1 : decode cX8_isTree 1 = .ok (.ifCond .lt 15, 3) := by decide +kernel
theorem dX8_isTree_4 : decode cX8_isTree 4 = .ok (.iload_n 1, 1) := by decide +kernel
theorem dX8_isTree_5 : decode cX8_isTree 5 = .ok (.aload_n 0, 1) := by decide +kernel
theorem dX8_isTree_6 : decode cX8_isTree 6 = .ok (.getfield 67, 3) := by decide +kernel
theorem dX8_isTree_9 : decode cX8_isTree 9 = .ok (.if_icmp .ge 7, 3) := by decide +kernel
theorem dX8_isTree_16 : decode cX8_isTree 16 = .ok (.iconst 0, 1) := by decide +kernel
theorem dX8_isTree_17 : decode cX8_isTree 17 = .ok (.ireturn, 1) := by decide +kernel
theorem dX8_cut_0 : decode cX8_cut 0 = .ok (.aload_n 0, 1) := by decide +kernel
theorem dX8_cut_1 : decode cX8_cut 1 = .ok (.iload_n 1, 1) := by decide +kernel
theorem dX8_cut_2 : decode cX8_cut 2 = .ok (.invokevirtual 165, 3) := by decide +kernel
theorem dX8_cut_5 : decode cX8_cut 5 = .ok (.ifCond .eq 26, 3) := by decide +kernel
theorem dX8_cut_31 : decode cX8_cut 31 = .ok (.iconst (-1), 1) := by decide +kernel
theorem dX8_cut_32 : decode cX8_cut 32 = .ok (.ireturn, 1) := by decide +kernel
theorem dX8_price_0 : decode cX8_price 0 = .ok (.aload_n 0, 1) := by decide +kernel
theorem dX8_price_1 : decode cX8_price 1 = .ok (.iload_n 1, 1) := by decide +kernel
theorem dX8_price_2 : decode cX8_price 2 = .ok (.invokevirtual 165, 3) := by decide +kernel
theorem dX8_price_5 : decode cX8_price 5 = .ok (.ifCond .eq 22, 3) := by decide +kernel
theorem dX8_price_27 : decode cX8_price 27 = .ok (.iconst (-1), 1) := by decide +kernel
theorem dX8_price_28 : decode cX8_price 28 = .ok (.ireturn, 1) := by decide +kernel
theorem dX8_folds_0 : decode cX8_folds 0 = .ok (.iload_n 1, 1) := by decide +kernel
theorem dX8_folds_1 : decode cX8_folds 1 = .ok (.iconst 2, 1) := by decide +kernel
theorem dX8_folds_2 : decode cX8_folds 2 = .ok (.if_icmp .lt 17, 3) := by decide +kernel
theorem dX8_folds_5 : decode cX8_folds 5 = .ok (.iload_n 1, 1) := by decide +kernel
theorem dX8_folds_6 : decode cX8_folds 6 = .ok (.bipush 10, 2) := by decide +kernel
theorem dX8_folds_8 : decode cX8_folds 8 = .ok (.if_icmp .gt 11, 3) := by decide +kernel
theorem dX8_folds_11 : decode cX8_folds 11 = .ok (.iload_n 2, 1) := by decide +kernel
theorem dX8_folds_12 : decode cX8_folds 12 = .ok (.iload_n 3, 1) := by decide +kernel
theorem dX8_folds_13 : decode cX8_folds 13 = .ok (.invokestatic 140, 3) := by decide +kernel
theorem dX8_folds_16 : decode cX8_folds 16 = .ok (.ifCond .ne 5, 3) := by decide +kernel
theorem dX8_folds_19 : decode cX8_folds 19 = .ok (.iconst (-1), 1) := by decide +kernel
theorem dX8_folds_20 : decode cX8_folds 20 = .ok (.ireturn, 1) := by decide +kernel
theorem dX8_folds_21 : decode cX8_folds 21 = .ok (.iconst 0, 1) := by decide +kernel
theorem dX8_folds_22 : decode cX8_folds 22 = .ok (.istore 4, 2) := by decide +kernel
theorem dX8_folds_24 : decode cX8_folds 24 = .ok (.iconst 0, 1) := by decide +kernel
theorem dX8_folds_25 : decode cX8_folds 25 = .ok (.istore 5, 2) := by decide +kernel
theorem dX8_folds_27 : decode cX8_folds 27 = .ok (.iload 5, 2) := by decide +kernel
theorem dX8_folds_29 : decode cX8_folds 29 = .ok (.iload_n 1, 1) := by decide +kernel
theorem dX8_folds_30 : decode cX8_folds 30 = .ok (.if_icmp .ge 116, 3) := by decide +kernel
theorem dX8_folds_33 : decode cX8_folds 33 = .ok (.iconst 0, 1) := by decide +kernel
theorem dX8_folds_34 : decode cX8_folds 34 = .ok (.istore 6, 2) := by decide +kernel
theorem dX8_folds_36 : decode cX8_folds 36 = .ok (.iload 6, 2) := by decide +kernel
theorem dX8_folds_38 : decode cX8_folds 38 = .ok (.aload_n 0, 1) := by decide +kernel
theorem dX8_folds_39 : decode cX8_folds 39 = .ok (.getfield 64, 3) := by decide +kernel
theorem dX8_folds_42 : decode cX8_folds 42 = .ok (.if_icmp .ge 30, 3) := by decide +kernel
theorem dX8_folds_72 : decode cX8_folds 72 = .ok (.aload_n 0, 1) := by decide +kernel
theorem dX8_folds_73 : decode cX8_folds 73 = .ok (.bipush 20, 2) := by decide +kernel
theorem dX8_folds_75 : decode cX8_folds 75 = .ok (.putfield 111, 3) := by decide +kernel
theorem dX8_folds_78 : decode cX8_folds 78 = .ok (.aload_n 0, 1) := by decide +kernel
theorem dX8_folds_79 : decode cX8_folds 79 = .ok (.getfield 24, 3) := by decide +kernel
theorem dX8_folds_82 : decode cX8_folds 82 = .ok (.aload_n 0, 1) := by decide +kernel
theorem dX8_folds_83 : decode cX8_folds 83 = .ok (.getfield 111, 3) := by decide +kernel
theorem dX8_folds_86 : decode cX8_folds 86 = .ok (.iconst 0, 1) := by decide +kernel
theorem dX8_folds_87 : decode cX8_folds 87 = .ok (.iastore, 1) := by decide +kernel
theorem dX8_folds_88 : decode cX8_folds 88 = .ok (.aload_n 0, 1) := by decide +kernel
theorem dX8_folds_89 : decode cX8_folds 89 = .ok (.iconst 0, 1) := by decide +kernel
theorem dX8_folds_90 : decode cX8_folds 90 = .ok (.iload_n 2, 1) := by decide +kernel
theorem dX8_folds_91 : decode cX8_folds 91 = .ok (.iload_n 3, 1) := by decide +kernel
theorem dX8_folds_92 : decode cX8_folds 92 = .ok (.invokevirtual 136, 3) := by decide +kernel
theorem dX8_folds_95 : decode cX8_folds 95 = .ok (.istore 6, 2) := by decide +kernel
theorem dX8_folds_97 : decode cX8_folds 97 = .ok (.iload 5, 2) := by decide +kernel
theorem dX8_folds_99 : decode cX8_folds 99 = .ok (.istore 7, 2) := by decide +kernel
theorem dX8_folds_101 : decode cX8_folds 101 = .ok (.iload 7, 2) := by decide +kernel
theorem dX8_folds_103 : decode cX8_folds 103 = .ok (.aload_n 0, 1) := by decide +kernel
theorem dX8_folds_104 : decode cX8_folds 104 = .ok (.getfield 64, 3) := by decide +kernel
theorem dX8_folds_107 : decode cX8_folds 107 = .ok (.if_icmp .ge 33, 3) := by decide +kernel
theorem dX8_folds_140 : decode cX8_folds 140 = .ok (.iinc 5 1, 3) := by decide +kernel
theorem dX8_folds_143 : decode cX8_folds 143 = .ok (.goto (-116), 3) := by decide +kernel
theorem dX8_folds_146 : decode cX8_folds 146 = .ok (.iload 4, 2) := by decide +kernel
theorem dX8_folds_148 : decode cX8_folds 148 = .ok (.ireturn, 1) := by decide +kernel
theorem dX8_remove_0 : decode cX8_remove 0 = .ok (.aload_n 0, 1) := by decide +kernel
theorem dX8_remove_1 : decode cX8_remove 1 = .ok (.getfield 67, 3) := by decide +kernel
theorem dX8_remove_4 : decode cX8_remove 4 = .ok (.ifCond .ne 5, 3) := by decide +kernel
theorem dX8_remove_7 : decode cX8_remove 7 = .ok (.iconst (-1), 1) := by decide +kernel
theorem dX8_remove_8 : decode cX8_remove 8 = .ok (.ireturn, 1) := by decide +kernel
theorem dX8_tree_0 : decode cX8_tree 0 = .ok (.aload_n 0, 1) := by decide +kernel
theorem dX8_tree_1 : decode cX8_tree 1 = .ok (.iload_n 1, 1) := by decide +kernel
theorem dX8_tree_2 : decode cX8_tree 2 = .ok (.invokevirtual 165, 3) := by decide +kernel
theorem dX8_tree_5 : decode cX8_tree 5 = .ok (.ifCond .eq 12, 3) := by decide +kernel
theorem dX8_tree_17 : decode cX8_tree 17 = .ok (.iconst (-1), 1) := by decide +kernel
theorem dX8_tree_18 : decode cX8_tree 18 = .ok (.ireturn, 1) := by decide +kernel
theorem dX8_node_0 : decode cX8_node 0 = .ok (.aload_n 0, 1) := by decide +kernel
theorem dX8_node_1 : decode cX8_node 1 = .ok (.iload_n 1, 1) := by decide +kernel
theorem dX8_node_2 : decode cX8_node 2 = .ok (.invokevirtual 165, 3) := by decide +kernel
theorem dX8_node_5 : decode cX8_node 5 = .ok (.ifCond .eq 27, 3) := by decide +kernel
theorem dX8_node_32 : decode cX8_node 32 = .ok (.iconst (-1), 1) := by decide +kernel
theorem dX8_node_33 : decode cX8_node 33 = .ok (.ireturn, 1) := by decide +kernel
theorem dX8_share_0 : decode cX8_share 0 = .ok (.aload_n 0, 1) := by decide +kernel
theorem dX8_share_1 : decode cX8_share 1 = .ok (.iload_n 1, 1) := by decide +kernel
theorem dX8_share_2 : decode cX8_share 2 = .ok (.invokevirtual 165, 3) := by decide +kernel
theorem dX8_share_5 : decode cX8_share 5 = .ok (.ifCond .eq 26, 3) := by decide +kernel
theorem dX8_share_31 : decode cX8_share 31 = .ok (.iconst (-1), 1) := by decide +kernel
theorem dX8_share_32 : decode cX8_share 32 = .ok (.ireturn, 1) := by decide +kernel
theorem dX8_say_0 : decode cX8_say 0 = .ok (.aload_n 0, 1) := by decide +kernel
theorem dX8_say_1 : decode cX8_say 1 = .ok (.iload_n 1, 1) := by decide +kernel
theorem dX8_say_2 : decode cX8_say 2 = .ok (.invokevirtual 165, 3) := by decide +kernel
theorem dX8_say_5 : decode cX8_say 5 = .ok (.ifCond .eq 17, 3) := by decide +kernel
theorem dX8_say_22 : decode cX8_say 22 = .ok (.iconst (-1), 1) := by decide +kernel
theorem dX8_say_23 : decode cX8_say 23 = .ok (.ireturn, 1) := by decide +kernel
theorem dX8_said_0 : decode cX8_said 0 = .ok (.aload_n 0, 1) := by decide +kernel
theorem dX8_said_1 : decode cX8_said 1 = .ok (.getfield 36, 3) := by decide +kernel
theorem dX8_said_4 : decode cX8_said 4 = .ok (.ireturn, 1) := by decide +kernel
theorem dX8_vote_0 : decode cX8_vote 0 = .ok (.aload_n 0, 1) := by decide +kernel
theorem dX8_vote_1 : decode cX8_vote 1 = .ok (.getfield 67, 3) := by decide +kernel
theorem dX8_vote_4 : decode cX8_vote 4 = .ok (.ifCond .eq 16, 3) := by decide +kernel
theorem dX8_vote_20 : decode cX8_vote 20 = .ok (.iconst (-1), 1) := by decide +kernel
theorem dX8_vote_21 : decode cX8_vote 21 = .ok (.ireturn, 1) := by decide +kernel
theorem dX8_voices_0 : decode cX8_voices 0 = .ok (.aload_n 0, 1) := by decide +kernel
theorem dX8_voices_1 : decode cX8_voices 1 = .ok (.getfield 40, 3) := by decide +kernel
theorem dX8_voices_4 : decode cX8_voices 4 = .ok (.ireturn, 1) := by decide +kernel
theorem dX8_rule_0 : decode cX8_rule 0 = .ok (.aload_n 0, 1) := by decide +kernel
theorem dX8_rule_1 : decode cX8_rule 1 = .ok (.iload_n 1, 1) := by decide +kernel
theorem dX8_rule_2 : decode cX8_rule 2 = .ok (.invokevirtual 165, 3) := by decide +kernel
theorem dX8_rule_5 : decode cX8_rule 5 = .ok (.ifCond .eq 51, 3) := by decide +kernel
theorem dX8_rule_56 : decode cX8_rule 56 = .ok (.ldc 74, 2) := by decide +kernel
theorem dX8_rule_58 : decode cX8_rule 58 = .ok (.ireturn, 1) := by decide +kernel
theorem dX8_near_0 : decode cX8_near 0 = .ok (.aload_n 0, 1) := by decide +kernel
theorem dX8_near_1 : decode cX8_near 1 = .ok (.iload_n 1, 1) := by decide +kernel
theorem dX8_near_2 : decode cX8_near 2 = .ok (.invokevirtual 165, 3) := by decide +kernel
theorem dX8_near_5 : decode cX8_near 5 = .ok (.ifCond .eq 17, 3) := by decide +kernel
theorem dX8_near_22 : decode cX8_near 22 = .ok (.iconst (-1), 1) := by decide +kernel
theorem dX8_near_23 : decode cX8_near 23 = .ok (.ireturn, 1) := by decide +kernel
theorem dX8_turned_0 : decode cX8_turned 0 = .ok (.aload_n 0, 1) := by decide +kernel
theorem dX8_turned_1 : decode cX8_turned 1 = .ok (.getfield 205, 3) := by decide +kernel
theorem dX8_turned_4 : decode cX8_turned 4 = .ok (.ifCond .eq 22, 3) := by decide +kernel
theorem dX8_turned_26 : decode cX8_turned 26 = .ok (.ldc 74, 2) := by decide +kernel
theorem dX8_turned_28 : decode cX8_turned 28 = .ok (.ireturn, 1) := by decide +kernel
theorem dX8_count_0 : decode cX8_count 0 = .ok (.iload_n 1, 1) := by decide +kernel
theorem dX8_count_1 : decode cX8_count 1 = .ok (.ifCond .ne 10, 3) := by decide +kernel
theorem dX8_count_4 : decode cX8_count 4 = .ok (.aload_n 0, 1) := by decide +kernel
theorem dX8_count_5 : decode cX8_count 5 = .ok (.getfield 64, 3) := by decide +kernel
theorem dX8_count_8 : decode cX8_count 8 = .ok (.goto 16, 3) := by decide +kernel
theorem dX8_count_11 : decode cX8_count 11 = .ok (.iload_n 1, 1) := by decide +kernel
theorem dX8_count_12 : decode cX8_count 12 = .ok (.iconst 1, 1) := by decide +kernel
theorem dX8_count_13 : decode cX8_count 13 = .ok (.if_icmp .ne 10, 3) := by decide +kernel
theorem dX8_count_16 : decode cX8_count 16 = .ok (.aload_n 0, 1) := by decide +kernel
theorem dX8_count_17 : decode cX8_count 17 = .ok (.getfield 67, 3) := by decide +kernel
theorem dX8_count_20 : decode cX8_count 20 = .ok (.goto 4, 3) := by decide +kernel
theorem dX8_count_23 : decode cX8_count 23 = .ok (.iconst (-1), 1) := by decide +kernel
theorem dX8_count_24 : decode cX8_count 24 = .ok (.ireturn, 1) := by decide +kernel
set_option maxRecDepth 20000 in
theorem ggX8_add_X8_take : GoodIn wsX8_add wsX8_take := goodIn_r _ [9, 3, 10, 11, 12, 13, 14, 15, 16, 17, 18, 19, 20, 21, 22, 23, 24, 25, 26, 27, 28, 29, 30, 31, 32] (by decide +kernel) (by decide +kernel)
set_option maxRecDepth 20000 in
theorem gX8_add_X8_take : GoodIn wsX8_add (wsV RX8 70 RX8 yX8_take wsX8_take) := goodIn_app (goodIn_of _ (by decide +kernel)) ggX8_add_X8_take
set_option maxRecDepth 20000 in
theorem ggX8_wrongAt_X8_countAt : GoodIn wsX8_wrongAt wsX8_countAt := goodIn_r _ [6, 1, 11, 12, 13, 14, 15, 16, 17, 18, 19, 20, 21, 22, 23, 24, 25, 26, 27, 28, 29, 30, 31, 32, 33] (by decide +kernel) (by decide +kernel)
set_option maxRecDepth 20000 in
theorem gX8_wrongAt_X8_countAt : GoodIn wsX8_wrongAt (wsV RX8 75 RX8 yX8_countAt wsX8_countAt) := goodIn_app (goodIn_of _ (by decide +kernel)) ggX8_wrongAt_X8_countAt
set_option maxRecDepth 20000 in
theorem ggX8_wrongAt_X8_classAt : GoodIn wsX8_wrongAt wsX8_classAt := goodIn_r _ [10, 1, 11, 12, 13, 14, 15, 16, 17, 18, 19, 20, 21, 22, 23, 24, 25, 26, 27, 28, 29, 30, 31, 32, 33] (by decide +kernel) (by decide +kernel)
set_option maxRecDepth 20000 in
theorem gX8_wrongAt_X8_classAt : GoodIn wsX8_wrongAt (wsV RX8 79 RX8 yX8_classAt wsX8_classAt) := goodIn_app (goodIn_of _ (by decide +kernel)) ggX8_wrongAt_X8_classAt
set_option maxRecDepth 20000 in
theorem ggX8_newNode_X8_countRow : GoodIn wsX8_newNode wsX8_countRow := goodIn_r _ [9, 4, 10, 11, 12, 17, 18, 19, 20, 21, 22, 23, 24, 25, 26, 27, 28, 29, 30, 31, 32, 33, 34, 35, 36, 37, 38, 39] (by decide +kernel) (by decide +kernel)
set_option maxRecDepth 20000 in
theorem gX8_newNode_X8_countRow : GoodIn wsX8_newNode (wsV RX8 93 RX8 yX8_countRow wsX8_countRow) := goodIn_app (goodIn_of _ (by decide +kernel)) ggX8_newNode_X8_countRow
set_option maxRecDepth 20000 in
theorem ggX8_newNode_X8_place : GoodIn wsX8_newNode wsX8_place := goodIn_r _ [16] (by decide +kernel) (by decide +kernel)
set_option maxRecDepth 20000 in
theorem gX8_newNode_X8_place : GoodIn wsX8_newNode (wsV RX8 114 RX8 yX8_place wsX8_place) := goodIn_app (goodIn_of _ (by decide +kernel)) ggX8_newNode_X8_place
set_option maxRecDepth 20000 in
theorem ggX8_growNode_X8_newNode : GoodIn wsX8_growNode wsX8_newNode := goodIn_r _ [9, 10, 1, 4, 11, 12, 13, 14, 8, 15, 16, 17, 18, 19, 20, 21, 22, 72, 73, 74, 75, 76, 77, 78, 79, 80, 81, 82, 83, 84, 85, 86, 87, 88, 89, 90, 91, 92, 93, 94] (by decide +kernel) (by decide +kernel)
set_option maxRecDepth 20000 in
theorem gX8_growNode_X8_newNode : GoodIn wsX8_growNode (wsV RX8 118 RX8 yX8_newNode wsX8_newNode) := goodIn_app (goodIn_of _ (by decide +kernel)) ggX8_growNode_X8_newNode
set_option maxRecDepth 20000 in
theorem ggX8_growNode_X8_place : GoodIn wsX8_growNode wsX8_place := goodIn_r _ [22] (by decide +kernel) (by decide +kernel)
set_option maxRecDepth 20000 in
theorem gX8_growNode_X8_place : GoodIn wsX8_growNode (wsV RX8 114 RX8 yX8_place wsX8_place) := goodIn_app (goodIn_of _ (by decide +kernel)) ggX8_growNode_X8_place
set_option maxRecDepth 20000 in
theorem ggX8_growNode_X8_wrongAt : GoodIn wsX8_growNode wsX8_wrongAt := goodIn_r _ [26, 4, 27, 28, 29, 8, 30, 31, 32, 33, 34, 72, 73, 74, 75, 76, 77, 78, 79, 80, 81, 82, 83, 84, 85, 86, 87, 88, 89, 90, 91, 92, 93, 94] (by decide +kernel) (by decide +kernel)
set_option maxRecDepth 20000 in
theorem gX8_growNode_X8_wrongAt : GoodIn wsX8_growNode (wsV RX8 121 RX8 yX8_wrongAt wsX8_wrongAt) := goodIn_app (goodIn_of _ (by decide +kernel)) ggX8_growNode_X8_wrongAt
set_option maxRecDepth 20000 in
theorem ggX8_grow_X8_areGrowing : GoodIn wsX8_grow wsX8_areGrowing := goodIn_r _ [9] (by decide +kernel) (by decide +kernel)
set_option maxRecDepth 20000 in
theorem gX8_grow_X8_areGrowing : GoodIn wsX8_grow (va_wsS RX8 140 yX8_areGrowing wsX8_areGrowing) := goodIn_app (goodIn_of _ (by decide +kernel)) ggX8_grow_X8_areGrowing
set_option maxRecDepth 20000 in
theorem ggX8_grow_X8_growNode : GoodIn wsX8_grow wsX8_growNode := goodIn_r _ [13, 4, 14, 15, 16, 17, 18, 19, 8, 20, 5, 21, 22, 23, 24, 25, 2, 3, 26, 27, 28, 29, 30, 31, 32, 33, 34, 35, 36, 37, 38, 39, 40, 41, 42, 43, 44, 45, 46, 47, 48, 49, 50, 51, 52, 53, 54, 55, 56, 57, 58, 59, 60, 61, 62, 63, 64, 65, 66, 67, 68, 69, 70, 71, 72, 73, 74, 75, 76, 10, 11, 12, 77, 78, 79, 80, 81, 82, 83, 84, 85, 86, 87, 88, 89, 90, 91, 92, 93, 94, 95, 96, 97, 98, 99] (by decide +kernel) (by decide +kernel)
set_option maxRecDepth 20000 in
theorem gX8_grow_X8_growNode : GoodIn wsX8_grow (wsV RX8 136 RX8 yX8_growNode wsX8_growNode) := goodIn_app (goodIn_of _ (by decide +kernel)) ggX8_grow_X8_growNode
set_option maxRecDepth 20000 in
theorem ggX8_search_X8_countRow : GoodIn wsX8_search wsX8_countRow := goodIn_r _ [13, 1, 2, 3, 14, 35, 36, 37, 38, 39, 40, 41, 42, 43, 44, 45, 46, 47, 48, 49, 50, 51, 52, 53, 54, 55, 56, 57] (by decide +kernel) (by decide +kernel)
set_option maxRecDepth 20000 in
theorem gX8_search_X8_countRow : GoodIn wsX8_search (wsV RX8 93 RX8 yX8_countRow wsX8_countRow) := goodIn_app (goodIn_of _ (by decide +kernel)) ggX8_search_X8_countRow
set_option maxRecDepth 20000 in
theorem ggX8_bestNode_X8_newNode : GoodIn wsX8_bestNode wsX8_newNode := goodIn_r _ [9, 10, 3, 4, 11, 12, 13, 14, 8, 15, 16, 17, 18, 19, 20, 21, 22, 58, 59, 60, 61, 62, 63, 64, 65, 66, 67, 68, 69, 70, 71, 72, 73, 74, 75, 76, 77, 78, 79, 80] (by decide +kernel) (by decide +kernel)
set_option maxRecDepth 20000 in
theorem gX8_bestNode_X8_newNode : GoodIn wsX8_bestNode (wsV RX8 118 RX8 yX8_newNode wsX8_newNode) := goodIn_app (goodIn_of _ (by decide +kernel)) ggX8_bestNode_X8_newNode
set_option maxRecDepth 20000 in
theorem ggX8_bestNode_X8_search : GoodIn wsX8_bestNode wsX8_search := goodIn_r _ [26, 11, 16, 17, 27, 28, 29, 1, 2, 12, 13, 14, 8, 15, 18, 30, 31, 32, 33, 34, 35, 36, 37, 38, 39, 40, 41, 42, 43, 44, 45, 46, 23, 24, 25, 58, 59, 60, 61, 62, 63, 64, 65, 66, 67, 68, 69, 70, 71, 72, 73, 74, 75, 76, 77, 78, 79, 80] (by decide +kernel) (by decide +kernel)
set_option maxRecDepth 20000 in
theorem gX8_bestNode_X8_search : GoodIn wsX8_bestNode (wsV RX8 146 RX8 yX8_search wsX8_search) := goodIn_app (goodIn_of _ (by decide +kernel)) ggX8_bestNode_X8_search
set_option maxRecDepth 20000 in
theorem ggX8_best_X8_bestNode : GoodIn wsX8_best wsX8_bestNode := goodIn_r _ [11, 12, 13, 5, 14, 15, 16, 17, 10, 18, 6, 19, 20, 21, 22, 23, 1, 4, 24, 25, 26, 27, 28, 29, 30, 31, 32, 2, 33, 34, 35, 36, 37, 38, 39, 40, 41, 42, 43, 44, 45, 46, 47, 48, 49, 50, 51, 52, 53, 54, 55, 56, 57, 58, 59, 7, 8, 9, 60, 61, 62, 63, 64, 65, 66, 67, 68, 69, 70, 71, 72, 73, 74, 75, 76, 77, 78, 79, 80, 81, 82] (by decide +kernel) (by decide +kernel)
set_option maxRecDepth 20000 in
theorem gX8_best_X8_bestNode : GoodIn wsX8_best (wsV RX8 150 RX8 yX8_bestNode wsX8_bestNode) := goodIn_app (goodIn_of _ (by decide +kernel)) ggX8_best_X8_bestNode
set_option maxRecDepth 20000 in
theorem ggX8_cut_X8_isTree : GoodIn wsX8_cut wsX8_isTree := goodIn_r _ [8, 1, 38, 39, 40, 41, 42, 43, 44, 45, 46, 47, 48, 49, 50, 51, 52, 53, 54, 55, 56, 57, 58, 59, 60] (by decide +kernel) (by decide +kernel)
set_option maxRecDepth 20000 in
theorem gX8_cut_X8_isTree : GoodIn wsX8_cut (wsV RX8 165 RX8 yX8_isTree wsX8_isTree) := goodIn_app (goodIn_of _ (by decide +kernel)) ggX8_cut_X8_isTree
set_option maxRecDepth 20000 in
theorem ggX8_price_X8_isTree : GoodIn wsX8_price wsX8_isTree := goodIn_r _ [6, 7, 37, 38, 39, 40, 41, 42, 43, 44, 45, 46, 47, 48, 49, 50, 51, 52, 53, 54, 55, 56, 57, 58, 59] (by decide +kernel) (by decide +kernel)
set_option maxRecDepth 20000 in
theorem gX8_price_X8_isTree : GoodIn wsX8_price (wsV RX8 165 RX8 yX8_isTree wsX8_isTree) := goodIn_app (goodIn_of _ (by decide +kernel)) ggX8_price_X8_isTree
set_option maxRecDepth 20000 in
theorem ggX8_folds_X8_areGrowing : GoodIn wsX8_folds wsX8_areGrowing := goodIn_r _ [8] (by decide +kernel) (by decide +kernel)
set_option maxRecDepth 20000 in
theorem gX8_folds_X8_areGrowing : GoodIn wsX8_folds (va_wsS RX8 140 yX8_areGrowing wsX8_areGrowing) := goodIn_app (goodIn_of _ (by decide +kernel)) ggX8_folds_X8_areGrowing
set_option maxRecDepth 20000 in
theorem ggX8_folds_X8_growNode : GoodIn wsX8_folds wsX8_growNode := goodIn_r _ [12, 3, 13, 14, 15, 16, 17, 18, 7, 19, 4, 20, 21, 22, 23, 24, 1, 2, 25, 26, 27, 28, 29, 30, 31, 32, 33, 34, 35, 36, 37, 38, 39, 40, 41, 42, 43, 44, 45, 46, 47, 48, 49, 50, 51, 52, 53, 54, 55, 56, 57, 58, 59, 60, 61, 62, 63, 64, 65, 66, 67, 68, 69, 70, 71, 72, 73, 74, 75, 9, 10, 11, 93, 94, 95, 96, 97, 98, 99, 100, 101, 102, 103, 104, 105, 106, 107, 108, 109, 110, 111, 112, 113, 114, 115] (by decide +kernel) (by decide +kernel)
set_option maxRecDepth 20000 in
theorem gX8_folds_X8_growNode : GoodIn wsX8_folds (wsV RX8 136 RX8 yX8_growNode wsX8_growNode) := goodIn_app (goodIn_of _ (by decide +kernel)) ggX8_folds_X8_growNode
set_option maxRecDepth 20000 in
theorem ggX8_tree_X8_isTree : GoodIn wsX8_tree wsX8_isTree := goodIn_r _ [8, 9, 50, 51, 52, 53, 54, 55, 56, 57, 58, 59, 60, 61, 62, 63, 64, 65, 66, 67, 68, 69, 70, 71, 72] (by decide +kernel) (by decide +kernel)
set_option maxRecDepth 20000 in
theorem gX8_tree_X8_isTree : GoodIn wsX8_tree (wsV RX8 165 RX8 yX8_isTree wsX8_isTree) := goodIn_app (goodIn_of _ (by decide +kernel)) ggX8_tree_X8_isTree
set_option maxRecDepth 20000 in
theorem ggX8_node_X8_isTree : GoodIn wsX8_node wsX8_isTree := goodIn_r _ [7, 8, 25, 26, 27, 28, 29, 30, 31, 32, 33, 34, 35, 36, 37, 38, 39, 40, 41, 42, 43, 44, 45, 46, 47] (by decide +kernel) (by decide +kernel)
set_option maxRecDepth 20000 in
theorem gX8_node_X8_isTree : GoodIn wsX8_node (wsV RX8 165 RX8 yX8_isTree wsX8_isTree) := goodIn_app (goodIn_of _ (by decide +kernel)) ggX8_node_X8_isTree
set_option maxRecDepth 20000 in
theorem ggX8_share_X8_isTree : GoodIn wsX8_share wsX8_isTree := goodIn_r _ [7, 8, 13, 14, 15, 16, 17, 18, 19, 20, 21, 22, 23, 24, 25, 26, 27, 28, 29, 30, 31, 32, 33, 34, 35] (by decide +kernel) (by decide +kernel)
set_option maxRecDepth 20000 in
theorem gX8_share_X8_isTree : GoodIn wsX8_share (wsV RX8 165 RX8 yX8_isTree wsX8_isTree) := goodIn_app (goodIn_of _ (by decide +kernel)) ggX8_share_X8_isTree
set_option maxRecDepth 20000 in
theorem ggX8_say_X8_isTree : GoodIn wsX8_say wsX8_isTree := goodIn_r _ [6, 7, 35, 36, 37, 38, 39, 40, 41, 42, 43, 44, 45, 46, 47, 48, 49, 50, 51, 52, 53, 54, 55, 56, 57] (by decide +kernel) (by decide +kernel)
set_option maxRecDepth 20000 in
theorem gX8_say_X8_isTree : GoodIn wsX8_say (wsV RX8 165 RX8 yX8_isTree wsX8_isTree) := goodIn_app (goodIn_of _ (by decide +kernel)) ggX8_say_X8_isTree
set_option maxRecDepth 20000 in
theorem ggX8_rule_X8_isTree : GoodIn wsX8_rule wsX8_isTree := goodIn_r _ [7, 8, 48, 49, 50, 51, 52, 53, 54, 55, 56, 57, 58, 59, 60, 61, 62, 63, 64, 65, 66, 67, 68, 69, 70] (by decide +kernel) (by decide +kernel)
set_option maxRecDepth 20000 in
theorem gX8_rule_X8_isTree : GoodIn wsX8_rule (wsV RX8 165 RX8 yX8_isTree wsX8_isTree) := goodIn_app (goodIn_of _ (by decide +kernel)) ggX8_rule_X8_isTree
set_option maxRecDepth 20000 in
theorem ggX8_near_X8_isTree : GoodIn wsX8_near wsX8_isTree := goodIn_r _ [10, 11, 66, 67, 68, 69, 70, 71, 72, 73, 74, 75, 76, 77, 78, 79, 80, 81, 82, 83, 84, 85, 86, 87, 88] (by decide +kernel) (by decide +kernel)
set_option maxRecDepth 20000 in
theorem gX8_near_X8_isTree : GoodIn wsX8_near (wsV RX8 165 RX8 yX8_isTree wsX8_isTree) := goodIn_app (goodIn_of _ (by decide +kernel)) ggX8_near_X8_isTree
