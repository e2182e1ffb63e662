theorem dX12_best_66 : decode cX12_best 66 = .ok (.iload 4, 2) := by decide +kernel
theorem dX12_best_68 : decode cX12_best 68 = .ok (.istore_n 1, 1) := by decide +kernel
theorem dX12_best_69 : decode cX12_best 69 = .ok (.iload_n 3, 1) := by decide +kernel
theorem dX12_best_70 : decode cX12_best 70 = .ok (.istore_n 2, 1) := by decide +kernel
theorem dX12_best_71 : decode cX12_best 71 = .ok (.iinc 3 1, 3) := by decide +kernel
theorem dX12_best_74 : decode cX12_best 74 = .ok (.goto (-32), 3) := by decide +kernel
theorem dX12_best_77 : decode cX12_best 77 = .ok (.iload_n 2, 1) := by decide +kernel
theorem dX12_best_78 : decode cX12_best 78 = .ok (.ireturn, 1) := by decide +kernel
theorem dX12_take_0 : decode cX12_take 0 = .ok (.aload_n 0, 1) := by decide +kernel
theorem dX12_take_1 : decode cX12_take 1 = .ok (.iload_n 1, 1) := by decide +kernel
theorem dX12_take_2 : decode cX12_take 2 = .ok (.invokevirtual 544, 3) := by decide +kernel
theorem dX12_take_5 : decode cX12_take 5 = .ok (.ifCond .eq 11, 3) := by decide +kernel
theorem dX12_take_8 : decode cX12_take 8 = .ok (.aload_n 0, 1) := by decide +kernel
theorem dX12_take_9 : decode cX12_take 9 = .ok (.iload_n 1, 1) := by decide +kernel
theorem dX12_take_10 : decode cX12_take 10 = .ok (.invokevirtual 535, 3) := by decide +kernel
theorem dX12_take_13 : decode cX12_take 13 = .ok (.ifCond .ne 5, 3) := by decide +kernel
theorem dX12_take_16 : decode cX12_take 16 = .ok (.iconst 0, 1) := by decide +kernel
theorem dX12_take_17 : decode cX12_take 17 = .ok (.ireturn, 1) := by decide +kernel
theorem dX12_take_18 : decode cX12_take 18 = .ok (.aload_n 0, 1) := by decide +kernel
theorem dX12_take_19 : decode cX12_take 19 = .ok (.iconst 0, 1) := by decide +kernel
theorem dX12_take_20 : decode cX12_take 20 = .ok (.putfield 504, 3) := by decide +kernel
theorem dX12_take_23 : decode cX12_take 23 = .ok (.iconst 1, 1) := by decide +kernel
theorem dX12_take_24 : decode cX12_take 24 = .ok (.ireturn, 1) := by decide +kernel
theorem dX12_mayJoin_0 : decode cX12_mayJoin 0 = .ok (.iload_n 1, 1) := by decide +kernel
theorem dX12_mayJoin_1 : decode cX12_mayJoin 1 = .ok (.iload_n 2, 1) := by decide +kernel
theorem dX12_mayJoin_2 : decode cX12_mayJoin 2 = .ok (.isub, 1) := by decide +kernel
theorem dX12_mayJoin_3 : decode cX12_mayJoin 3 = .ok (.iconst 1, 1) := by decide +kernel
theorem dX12_mayJoin_4 : decode cX12_mayJoin 4 = .ok (.iadd, 1) := by decide +kernel
theorem dX12_mayJoin_5 : decode cX12_mayJoin 5 = .ok (.istore_n 3, 1) := by decide +kernel
theorem dX12_mayJoin_6 : decode cX12_mayJoin 6 = .ok (.iload_n 3, 1) := by decide +kernel
theorem dX12_mayJoin_7 : decode cX12_mayJoin 7 = .ok (.iload_n 1, 1) := by decide +kernel
theorem dX12_mayJoin_8 : decode cX12_mayJoin 8 = .ok (.iload_n 2, 1) := by decide +kernel
theorem dX12_mayJoin_9 : decode cX12_mayJoin 9 = .ok (.iadd, 1) := by decide +kernel
theorem dX12_mayJoin_10 : decode cX12_mayJoin 10 = .ok (.if_icmp .ge 31, 3) := by decide +kernel
theorem dX12_mayJoin_13 : decode cX12_mayJoin 13 = .ok (.iload_n 3, 1) := by decide +kernel
theorem dX12_mayJoin_14 : decode cX12_mayJoin 14 = .ok (.ifCond .lt 21, 3) := by decide +kernel
theorem dX12_mayJoin_17 : decode cX12_mayJoin 17 = .ok (.iload_n 3, 1) := by decide +kernel
theorem dX12_mayJoin_18 : decode cX12_mayJoin 18 = .ok (.sipush 1000, 3) := by decide +kernel
theorem dX12_mayJoin_21 : decode cX12_mayJoin 21 = .ok (.if_icmp .gt 14, 3) := by decide +kernel
theorem dX12_mayJoin_24 : decode cX12_mayJoin 24 = .ok (.aload_n 0, 1) := by decide +kernel
theorem dX12_mayJoin_25 : decode cX12_mayJoin 25 = .ok (.getfield 405, 3) := by decide +kernel
theorem dX12_mayJoin_28 : decode cX12_mayJoin 28 = .ok (.iload_n 3, 1) := by decide +kernel
theorem dX12_mayJoin_29 : decode cX12_mayJoin 29 = .ok (.baload, 1) := by decide +kernel
theorem dX12_mayJoin_30 : decode cX12_mayJoin 30 = .ok (.ifCond .eq 5, 3) := by decide +kernel
theorem dX12_mayJoin_33 : decode cX12_mayJoin 33 = .ok (.iconst 0, 1) := by decide +kernel
theorem dX12_mayJoin_34 : decode cX12_mayJoin 34 = .ok (.ireturn, 1) := by decide +kernel
theorem dX12_mayJoin_35 : decode cX12_mayJoin 35 = .ok (.iinc 3 1, 3) := by decide +kernel
theorem dX12_mayJoin_38 : decode cX12_mayJoin 38 = .ok (.goto (-32), 3) := by decide +kernel
theorem dX12_mayJoin_41 : decode cX12_mayJoin 41 = .ok (.iconst 1, 1) := by decide +kernel
theorem dX12_mayJoin_42 : decode cX12_mayJoin 42 = .ok (.ireturn, 1) := by decide +kernel
theorem dX12_notesFaces_0 : decode cX12_notesFaces 0 = .ok (.iconst 0, 1) := by decide +kernel
theorem dX12_notesFaces_1 : decode cX12_notesFaces 1 = .ok (.istore_n 1, 1) := by decide +kernel
theorem dX12_notesFaces_2 : decode cX12_notesFaces 2 = .ok (.iload_n 1, 1) := by decide +kernel
theorem dX12_notesFaces_3 : decode cX12_notesFaces 3 = .ok (.sipush 1000, 3) := by decide +kernel
theorem dX12_notesFaces_6 : decode cX12_notesFaces 6 = .ok (.if_icmp .gt 16, 3) := by decide +kernel
theorem dX12_notesFaces_9 : decode cX12_notesFaces 9 = .ok (.aload_n 0, 1) := by decide +kernel
theorem dX12_notesFaces_10 : decode cX12_notesFaces 10 = .ok (.getfield 405, 3) := by decide +kernel
theorem dX12_notesFaces_13 : decode cX12_notesFaces 13 = .ok (.iload_n 1, 1) := by decide +kernel
theorem dX12_notesFaces_14 : decode cX12_notesFaces 14 = .ok (.iconst 0, 1) := by decide +kernel
theorem dX12_notesFaces_15 : decode cX12_notesFaces 15 = .ok (.bastore, 1) := by decide +kernel
theorem dX12_notesFaces_16 : decode cX12_notesFaces 16 = .ok (.iinc 1 1, 3) := by decide +kernel
theorem dX12_notesFaces_19 : decode cX12_notesFaces 19 = .ok (.goto (-17), 3) := by decide +kernel
theorem dX12_notesFaces_22 : decode cX12_notesFaces 22 = .ok (.iconst 0, 1) := by decide +kernel
theorem dX12_notesFaces_23 : decode cX12_notesFaces 23 = .ok (.istore_n 1, 1) := by decide +kernel
theorem dX12_notesFaces_24 : decode cX12_notesFaces 24 = .ok (.iload_n 1, 1) := by decide +kernel
theorem dX12_notesFaces_25 : decode cX12_notesFaces 25 = .ok (.bipush 8, 2) := by decide +kernel
theorem dX12_notesFaces_27 : decode cX12_notesFaces 27 = .ok (.if_icmp .ge 63, 3) := by decide +kernel
theorem dX12_notesFaces_30 : decode cX12_notesFaces 30 = .ok (.iconst 0, 1) := by decide +kernel
theorem dX12_notesFaces_31 : decode cX12_notesFaces 31 = .ok (.istore_n 2, 1) := by decide +kernel
theorem dX12_notesFaces_32 : decode cX12_notesFaces 32 = .ok (.iload_n 2, 1) := by decide +kernel
theorem dX12_notesFaces_33 : decode cX12_notesFaces 33 = .ok (.aload_n 0, 1) := by decide +kernel
theorem dX12_notesFaces_34 : decode cX12_notesFaces 34 = .ok (.getfield 464, 3) := by decide +kernel
theorem dX12_notesFaces_37 : decode cX12_notesFaces 37 = .ok (.if_icmp .gt 47, 3) := by decide +kernel
theorem dX12_notesFaces_40 : decode cX12_notesFaces 40 = .ok (.aload_n 0, 1) := by decide +kernel
theorem dX12_notesFaces_41 : decode cX12_notesFaces 41 = .ok (.getfield 49, 3) := by decide +kernel
theorem dX12_notesFaces_44 : decode cX12_notesFaces 44 = .ok (.iload_n 1, 1) := by decide +kernel
theorem dX12_notesFaces_45 : decode cX12_notesFaces 45 = .ok (.baload, 1) := by decide +kernel
theorem dX12_notesFaces_46 : decode cX12_notesFaces 46 = .ok (.ifCond .eq 32, 3) := by decide +kernel
theorem dX12_notesFaces_49 : decode cX12_notesFaces 49 = .ok (.aload_n 0, 1) := by decide +kernel
theorem dX12_notesFaces_50 : decode cX12_notesFaces 50 = .ok (.getfield 387, 3) := by decide +kernel
theorem dX12_notesFaces_53 : decode cX12_notesFaces 53 = .ok (.iload_n 2, 1) := by decide +kernel
theorem dX12_notesFaces_54 : decode cX12_notesFaces 54 = .ok (.iaload, 1) := by decide +kernel
theorem dX12_notesFaces_55 : decode cX12_notesFaces 55 = .ok (.iconst 1, 1) := by decide +kernel
theorem dX12_notesFaces_56 : decode cX12_notesFaces 56 = .ok (.if_icmp .ne 22, 3) := by decide +kernel
theorem dX12_notesFaces_59 : decode cX12_notesFaces 59 = .ok (.aload_n 0, 1) := by decide +kernel
theorem dX12_notesFaces_60 : decode cX12_notesFaces 60 = .ok (.iload_n 1, 1) := by decide +kernel
theorem dX12_notesFaces_61 : decode cX12_notesFaces 61 = .ok (.iload_n 2, 1) := by decide +kernel
theorem dX12_notesFaces_62 : decode cX12_notesFaces 62 = .ok (.invokevirtual 491, 3) := by decide +kernel
theorem dX12_notesFaces_65 : decode cX12_notesFaces 65 = .ok (.ifCond .eq 13, 3) := by decide +kernel
theorem dX12_notesFaces_68 : decode cX12_notesFaces 68 = .ok (.aload_n 0, 1) := by decide +kernel
theorem dX12_notesFaces_69 : decode cX12_notesFaces 69 = .ok (.getfield 405, 3) := by decide +kernel
theorem dX12_notesFaces_72 : decode cX12_notesFaces 72 = .ok (.aload_n 0, 1) := by decide +kernel
theorem dX12_notesFaces_73 : decode cX12_notesFaces 73 = .ok (.invokevirtual 179, 3) := by decide +kernel
theorem dX12_notesFaces_76 : decode cX12_notesFaces 76 = .ok (.iconst 1, 1) := by decide +kernel
theorem dX12_notesFaces_77 : decode cX12_notesFaces 77 = .ok (.bastore, 1) := by decide +kernel
theorem dX12_notesFaces_78 : decode cX12_notesFaces 78 = .ok (.iinc 2 1, 3) := by decide +kernel
theorem dX12_notesFaces_81 : decode cX12_notesFaces 81 = .ok (.goto (-49), 3) := by decide +kernel
theorem dX12_notesFaces_84 : decode cX12_notesFaces 84 = .ok (.iinc 1 1, 3) := by decide +kernel
theorem dX12_notesFaces_87 : decode cX12_notesFaces 87 = .ok (.goto (-63), 3) := by decide +kernel
theorem dX12_notesFaces_90 : decode cX12_notesFaces 90 = .ok (.return_, 1) := by decide +kernel
theorem dX12_joins_0 : decode cX12_joins 0 = .ok (.iload_n 1, 1) := by decide +kernel
theorem dX12_joins_1 : decode cX12_joins 1 = .ok (.iconst 1, 1) := by decide +kernel
theorem dX12_joins_2 : decode cX12_joins 2 = .ok (.sipush 1000, 3) := by decide +kernel
theorem dX12_joins_5 : decode cX12_joins 5 = .ok (.invokestatic 3, 3) := by decide +kernel
theorem dX12_joins_8 : decode cX12_joins 8 = .ok (.ifCond .eq 13, 3) := by decide +kernel
theorem dX12_joins_11 : decode cX12_joins 11 = .ok (.iload_n 2, 1) := by decide +kernel
theorem dX12_joins_12 : decode cX12_joins 12 = .ok (.iconst 0, 1) := by decide +kernel
theorem dX12_joins_13 : decode cX12_joins 13 = .ok (.bipush 100, 2) := by decide +kernel
theorem dX12_joins_15 : decode cX12_joins 15 = .ok (.invokestatic 3, 3) := by decide +kernel
theorem dX12_joins_18 : decode cX12_joins 18 = .ok (.ifCond .ne 5, 3) := by decide +kernel
theorem dX12_joins_21 : decode cX12_joins 21 = .ok (.iconst (-1), 1) := by decide +kernel
theorem dX12_joins_22 : decode cX12_joins 22 = .ok (.ireturn, 1) := by decide +kernel
theorem dX12_joins_23 : decode cX12_joins 23 = .ok (.aload_n 0, 1) := by decide +kernel
theorem dX12_joins_24 : decode cX12_joins 24 = .ok (.invokevirtual 550, 3) := by decide +kernel
theorem dX12_joins_27 : decode cX12_joins 27 = .ok (.iconst 0, 1) := by decide +kernel
theorem dX12_joins_28 : decode cX12_joins 28 = .ok (.istore_n 3, 1) := by decide +kernel
theorem dX12_joins_29 : decode cX12_joins 29 = .ok (.iconst 0, 1) := by decide +kernel
theorem dX12_joins_30 : decode cX12_joins 30 = .ok (.istore 4, 2) := by decide +kernel
theorem dX12_joins_32 : decode cX12_joins 32 = .ok (.iload 4, 2) := by decide +kernel
theorem dX12_joins_34 : decode cX12_joins 34 = .ok (.iload_n 1, 1) := by decide +kernel
theorem dX12_joins_35 : decode cX12_joins 35 = .ok (.iadd, 1) := by decide +kernel
theorem dX12_joins_36 : decode cX12_joins 36 = .ok (.sipush 1000, 3) := by decide +kernel
theorem dX12_joins_39 : decode cX12_joins 39 = .ok (.if_icmp .ge 60, 3) := by decide +kernel
theorem dX12_joins_42 : decode cX12_joins 42 = .ok (.iload 4, 2) := by decide +kernel
theorem dX12_joins_44 : decode cX12_joins 44 = .ok (.iload_n 1, 1) := by decide +kernel
theorem dX12_joins_45 : decode cX12_joins 45 = .ok (.iadd, 1) := by decide +kernel
theorem dX12_joins_46 : decode cX12_joins 46 = .ok (.istore 5, 2) := by decide +kernel
theorem dX12_joins_48 : decode cX12_joins 48 = .ok (.iload 5, 2) := by decide +kernel
theorem dX12_joins_50 : decode cX12_joins 50 = .ok (.iload 4, 2) := by decide +kernel
theorem dX12_joins_52 : decode cX12_joins 52 = .ok (.if_icmp .le 19, 3) := by decide +kernel
theorem dX12_joins_55 : decode cX12_joins 55 = .ok (.aload_n 0, 1) := by decide +kernel
theorem dX12_joins_56 : decode cX12_joins 56 = .ok (.iload 5, 2) := by decide +kernel
theorem dX12_joins_58 : decode cX12_joins 58 = .ok (.iload_n 2, 1) := by decide +kernel
theorem dX12_joins_59 : decode cX12_joins 59 = .ok (.invokevirtual 553, 3) := by decide +kernel
theorem dX12_joins_62 : decode cX12_joins 62 = .ok (.ifCond .ne 9, 3) := by decide +kernel
theorem dX12_joins_65 : decode cX12_joins 65 = .ok (.iinc 5 (-1), 3) := by decide +kernel
theorem dX12_joins_68 : decode cX12_joins 68 = .ok (.goto (-20), 3) := by decide +kernel
theorem dX12_joins_71 : decode cX12_joins 71 = .ok (.iload 5, 2) := by decide +kernel
theorem dX12_joins_73 : decode cX12_joins 73 = .ok (.iload 4, 2) := by decide +kernel
theorem dX12_joins_75 : decode cX12_joins 75 = .ok (.if_icmp .ne 6, 3) := by decide +kernel
theorem dX12_joins_78 : decode cX12_joins 78 = .ok (.bipush (-2), 2) := by decide +kernel
theorem dX12_joins_80 : decode cX12_joins 80 = .ok (.ireturn, 1) := by decide +kernel
theorem dX12_joins_81 : decode cX12_joins 81 = .ok (.aload_n 0, 1) := by decide +kernel
theorem dX12_joins_82 : decode cX12_joins 82 = .ok (.getfield 408, 3) := by decide +kernel
theorem dX12_joins_85 : decode cX12_joins 85 = .ok (.iload_n 3, 1) := by decide +kernel
theorem dX12_joins_86 : decode cX12_joins 86 = .ok (.iload 5, 2) := by decide +kernel
theorem dX12_joins_88 : decode cX12_joins 88 = .ok (.iastore, 1) := by decide +kernel
theorem dX12_joins_89 : decode cX12_joins 89 = .ok (.iinc 3 1, 3) := by decide +kernel
theorem dX12_joins_92 : decode cX12_joins 92 = .ok (.iload 5, 2) := by decide +kernel
theorem dX12_joins_94 : decode cX12_joins 94 = .ok (.istore 4, 2) := by decide +kernel
theorem dX12_joins_96 : decode cX12_joins 96 = .ok (.goto (-64), 3) := by decide +kernel
theorem dX12_joins_99 : decode cX12_joins 99 = .ok (.aload_n 0, 1) := by decide +kernel
theorem dX12_joins_100 : decode cX12_joins 100 = .ok (.iload_n 3, 1) := by decide +kernel
theorem dX12_joins_101 : decode cX12_joins 101 = .ok (.putfield 556, 3) := by decide +kernel
theorem dX12_joins_104 : decode cX12_joins 104 = .ok (.iconst 0, 1) := by decide +kernel
theorem dX12_joins_105 : decode cX12_joins 105 = .ok (.istore 5, 2) := by decide +kernel
theorem dX12_joins_107 : decode cX12_joins 107 = .ok (.iload 5, 2) := by decide +kernel
theorem dX12_joins_109 : decode cX12_joins 109 = .ok (.iload_n 3, 1) := by decide +kernel
theorem dX12_joins_110 : decode cX12_joins 110 = .ok (.if_icmp .ge 23, 3) := by decide +kernel
theorem dX12_joins_113 : decode cX12_joins 113 = .ok (.aload_n 0, 1) := by decide +kernel
theorem dX12_joins_114 : decode cX12_joins 114 = .ok (.getfield 402, 3) := by decide +kernel
theorem dX12_joins_117 : decode cX12_joins 117 = .ok (.iload 5, 2) := by decide +kernel
theorem dX12_joins_119 : decode cX12_joins 119 = .ok (.aload_n 0, 1) := by decide +kernel
theorem dX12_joins_120 : decode cX12_joins 120 = .ok (.getfield 408, 3) := by decide +kernel
theorem dX12_joins_123 : decode cX12_joins 123 = .ok (.iload 5, 2) := by decide +kernel
theorem dX12_joins_125 : decode cX12_joins 125 = .ok (.iaload, 1) := by decide +kernel
theorem dX12_joins_126 : decode cX12_joins 126 = .ok (.iastore, 1) := by decide +kernel
theorem dX12_joins_127 : decode cX12_joins 127 = .ok (.iinc 5 1, 3) := by decide +kernel
theorem dX12_joins_130 : decode cX12_joins 130 = .ok (.goto (-23), 3) := by decide +kernel
theorem dX12_joins_133 : decode cX12_joins 133 = .ok (.iload_n 3, 1) := by decide +kernel
theorem dX12_joins_134 : decode cX12_joins 134 = .ok (.ireturn, 1) := by decide +kernel
theorem dX12_join_0 : decode cX12_join 0 = .ok (.iload_n 1, 1) := by decide +kernel
theorem dX12_join_1 : decode cX12_join 1 = .ok (.ifCond .lt 20, 3) := by decide +kernel
theorem dX12_join_4 : decode cX12_join 4 = .ok (.iload_n 1, 1) := by decide +kernel
theorem dX12_join_5 : decode cX12_join 5 = .ok (.aload_n 0, 1) := by decide +kernel
theorem dX12_join_6 : decode cX12_join 6 = .ok (.getfield 556, 3) := by decide +kernel
theorem dX12_join_9 : decode cX12_join 9 = .ok (.if_icmp .ge 12, 3) := by decide +kernel
theorem dX12_join_12 : decode cX12_join 12 = .ok (.aload_n 0, 1) := by decide +kernel
theorem dX12_join_13 : decode cX12_join 13 = .ok (.getfield 402, 3) := by decide +kernel
theorem dX12_join_16 : decode cX12_join 16 = .ok (.iload_n 1, 1) := by decide +kernel
theorem dX12_join_17 : decode cX12_join 17 = .ok (.iaload, 1) := by decide +kernel
theorem dX12_join_18 : decode cX12_join 18 = .ok (.goto 4, 3) := by decide +kernel
theorem dX12_join_21 : decode cX12_join 21 = .ok (.iconst (-1), 1) := by decide +kernel
theorem dX12_join_22 : decode cX12_join 22 = .ok (.ireturn, 1) := by decide +kernel
theorem dX12_report_0 : decode cX12_report 0 = .ok (.iload_n 1, 1) := by decide +kernel
theorem dX12_report_1 : decode cX12_report 1 = .ok (.iconst 0, 1) := by decide +kernel
theorem dX12_report_2 : decode cX12_report 2 = .ok (.bipush 7, 2) := by decide +kernel
theorem dX12_report_4 : decode cX12_report 4 = .ok (.invokestatic 3, 3) := by decide +kernel
theorem dX12_report_7 : decode cX12_report 7 = .ok (.ifCond .eq 23, 3) := by decide +kernel
theorem dX12_report_10 : decode cX12_report 10 = .ok (.iload_n 2, 1) := by decide +kernel
theorem dX12_report_11 : decode cX12_report 11 = .ok (.iconst 0, 1) := by decide +kernel
theorem dX12_report_12 : decode cX12_report 12 = .ok (.sipush 240, 3) := by decide +kernel
theorem dX12_report_15 : decode cX12_report 15 = .ok (.invokestatic 3, 3) := by decide +kernel
theorem dX12_report_18 : decode cX12_report 18 = .ok (.ifCond .eq 12, 3) := by decide +kernel
theorem dX12_report_21 : decode cX12_report 21 = .ok (.aload_n 0, 1) := by decide +kernel
theorem dX12_report_22 : decode cX12_report 22 = .ok (.getfield 559, 3) := by decide +kernel
theorem dX12_report_25 : decode cX12_report 25 = .ok (.bipush 100, 2) := by decide +kernel
theorem dX12_report_27 : decode cX12_report 27 = .ok (.if_icmp .ne 5, 3) := by decide +kernel
theorem dX12_report_30 : decode cX12_report 30 = .ok (.iconst (-1), 1) := by decide +kernel
theorem dX12_report_31 : decode cX12_report 31 = .ok (.ireturn, 1) := by decide +kernel
theorem dX12_report_32 : decode cX12_report 32 = .ok (.aload_n 0, 1) := by decide +kernel
theorem dX12_report_33 : decode cX12_report 33 = .ok (.dup, 1) := by decide +kernel
theorem dX12_report_34 : decode cX12_report 34 = .ok (.getfield 559, 3) := by decide +kernel
theorem dX12_report_37 : decode cX12_report 37 = .ok (.iconst 1, 1) := by decide +kernel
theorem dX12_report_38 : decode cX12_report 38 = .ok (.iadd, 1) := by decide +kernel
theorem dX12_report_39 : decode cX12_report 39 = .ok (.putfield 559, 3) := by decide +kernel
theorem dX12_report_42 : decode cX12_report 42 = .ok (.aload_n 0, 1) := by decide +kernel
theorem dX12_report_43 : decode cX12_report 43 = .ok (.getfield 411, 3) := by decide +kernel
theorem dX12_report_46 : decode cX12_report 46 = .ok (.aload_n 0, 1) := by decide +kernel
theorem dX12_report_47 : decode cX12_report 47 = .ok (.getfield 559, 3) := by decide +kernel
theorem dX12_report_50 : decode cX12_report 50 = .ok (.iload_n 1, 1) := by decide +kernel
theorem dX12_report_51 : decode cX12_report 51 = .ok (.iastore, 1) := by decide +kernel
theorem dX12_report_52 : decode cX12_report 52 = .ok (.aload_n 0, 1) := by decide +kernel
theorem dX12_report_53 : decode cX12_report 53 = .ok (.getfield 414, 3) := by decide +kernel
theorem dX12_report_56 : decode cX12_report 56 = .ok (.aload_n 0, 1) := by decide +kernel
theorem dX12_report_57 : decode cX12_report 57 = .ok (.getfield 559, 3) := by decide +kernel
theorem dX12_report_60 : decode cX12_report 60 = .ok (.iload_n 2, 1) := by decide +kernel
theorem dX12_report_61 : decode cX12_report 61 = .ok (.iastore, 1) := by decide +kernel
theorem dX12_report_62 : decode cX12_report 62 = .ok (.aload_n 0, 1) := by decide +kernel
theorem dX12_report_63 : decode cX12_report 63 = .ok (.getfield 417, 3) := by decide +kernel
theorem dX12_report_66 : decode cX12_report 66 = .ok (.aload_n 0, 1) := by decide +kernel
theorem dX12_report_67 : decode cX12_report 67 = .ok (.getfield 559, 3) := by decide +kernel
theorem dX12_report_70 : decode cX12_report 70 = .ok (.iload_n 3, 1) := by decide +kernel
theorem dX12_report_71 : decode cX12_report 71 = .ok (.ifCond .eq 7, 3) := by decide +kernel
theorem dX12_report_74 : decode cX12_report 74 = .ok (.iconst 1, 1) := by decide +kernel
theorem dX12_report_75 : decode cX12_report 75 = .ok (.goto 4, 3) := by decide +kernel
theorem dX12_report_78 : decode cX12_report 78 = .ok (.iconst 0, 1) := by decide +kernel
theorem dX12_report_79 : decode cX12_report 79 = .ok (.iastore, 1) := by decide +kernel
theorem dX12_report_80 : decode cX12_report 80 = .ok (.aload_n 0, 1) := by decide +kernel
theorem dX12_report_81 : decode cX12_report 81 = .ok (.getfield 420, 3) := by decide +kernel
theorem dX12_report_84 : decode cX12_report 84 = .ok (.aload_n 0, 1) := by decide +kernel
theorem dX12_report_85 : decode cX12_report 85 = .ok (.getfield 559, 3) := by decide +kernel
theorem dX12_report_88 : decode cX12_report 88 = .ok (.iconst 0, 1) := by decide +kernel
theorem dX12_report_89 : decode cX12_report 89 = .ok (.iastore, 1) := by decide +kernel
theorem dX12_report_90 : decode cX12_report 90 = .ok (.aload_n 0, 1) := by decide +kernel
theorem dX12_report_91 : decode cX12_report 91 = .ok (.getfield 559, 3) := by decide +kernel
theorem dX12_report_94 : decode cX12_report 94 = .ok (.ireturn, 1) := by decide +kernel
theorem dX12_void__0 : decode cX12_void_ 0 = .ok (.iload_n 1, 1) := by decide +kernel
theorem dX12_void__1 : decode cX12_void_ 1 = .ok (.iconst 1, 1) := by decide +kernel
theorem dX12_void__2 : decode cX12_void_ 2 = .ok (.aload_n 0, 1) := by decide +kernel
theorem dX12_void__3 : decode cX12_void_ 3 = .ok (.getfield 559, 3) := by decide +kernel
theorem dX12_void__6 : decode cX12_void_ 6 = .ok (.invokestatic 3, 3) := by decide +kernel
theorem dX12_void__9 : decode cX12_void_ 9 = .ok (.ifCond .eq 31, 3) := by decide +kernel
theorem dX12_void__12 : decode cX12_void_ 12 = .ok (.aload_n 0, 1) := by decide +kernel
theorem dX12_void__13 : decode cX12_void_ 13 = .ok (.getfield 417, 3) := by decide +kernel
theorem dX12_void__16 : decode cX12_void_ 16 = .ok (.iload_n 1, 1) := by decide +kernel
theorem dX12_void__17 : decode cX12_void_ 17 = .ok (.iaload, 1) := by decide +kernel
theorem dX12_void__18 : decode cX12_void_ 18 = .ok (.iconst (-1), 1) := by decide +kernel
theorem dX12_void__19 : decode cX12_void_ 19 = .ok (.if_icmp .eq 21, 3) := by decide +kernel
theorem dX12_void__22 : decode cX12_void_ 22 = .ok (.aload_n 0, 1) := by decide +kernel
theorem dX12_void__23 : decode cX12_void_ 23 = .ok (.getfield 420, 3) := by decide +kernel
theorem dX12_void__26 : decode cX12_void_ 26 = .ok (.iload_n 1, 1) := by decide +kernel
theorem dX12_void__27 : decode cX12_void_ 27 = .ok (.iaload, 1) := by decide +kernel
theorem dX12_void__28 : decode cX12_void_ 28 = .ok (.ifCond .ne 12, 3) := by decide +kernel
theorem dX12_void__31 : decode cX12_void_ 31 = .ok (.aload_n 0, 1) := by decide +kernel
theorem dX12_void__32 : decode cX12_void_ 32 = .ok (.getfield 559, 3) := by decide +kernel
theorem dX12_void__35 : decode cX12_void_ 35 = .ok (.bipush 100, 2) := by decide +kernel
theorem dX12_void__37 : decode cX12_void_ 37 = .ok (.if_icmp .ne 5, 3) := by decide +kernel
theorem dX12_void__40 : decode cX12_void_ 40 = .ok (.iconst (-1), 1) := by decide +kernel
theorem dX12_void__41 : decode cX12_void_ 41 = .ok (.ireturn, 1) := by decide +kernel
theorem dX12_void__42 : decode cX12_void_ 42 = .ok (.aload_n 0, 1) := by decide +kernel
theorem dX12_void__43 : decode cX12_void_ 43 = .ok (.dup, 1) := by decide +kernel
theorem dX12_void__44 : decode cX12_void_ 44 = .ok (.getfield 559, 3) := by decide +kernel
theorem dX12_void__47 : decode cX12_void_ 47 = .ok (.iconst 1, 1) := by decide +kernel
theorem dX12_void__48 : decode cX12_void_ 48 = .ok (.iadd, 1) := by decide +kernel
theorem dX12_void__49 : decode cX12_void_ 49 = .ok (.putfield 559, 3) := by decide +kernel
theorem dX12_void__52 : decode cX12_void_ 52 = .ok (.aload_n 0, 1) := by decide +kernel
theorem dX12_void__53 : decode cX12_void_ 53 = .ok (.getfield 417, 3) := by decide +kernel
theorem dX12_void__56 : decode cX12_void_ 56 = .ok (.aload_n 0, 1) := by decide +kernel
theorem dX12_void__57 : decode cX12_void_ 57 = .ok (.getfield 559, 3) := by decide +kernel
theorem dX12_void__60 : decode cX12_void_ 60 = .ok (.iconst (-1), 1) := by decide +kernel
theorem dX12_void__61 : decode cX12_void_ 61 = .ok (.iastore, 1) := by decide +kernel
theorem dX12_void__62 : decode cX12_void_ 62 = .ok (.aload_n 0, 1) := by decide +kernel
theorem dX12_void__63 : decode cX12_void_ 63 = .ok (.getfield 420, 3) := by decide +kernel
theorem dX12_void__66 : decode cX12_void_ 66 = .ok (.aload_n 0, 1) := by decide +kernel
theorem dX12_void__67 : decode cX12_void_ 67 = .ok (.getfield 559, 3) := by decide +kernel
theorem dX12_void__70 : decode cX12_void_ 70 = .ok (.iconst 0, 1) := by decide +kernel
theorem dX12_void__71 : decode cX12_void_ 71 = .ok (.iastore, 1) := by decide +kernel
theorem dX12_void__72 : decode cX12_void_ 72 = .ok (.aload_n 0, 1) := by decide +kernel
theorem dX12_void__73 : decode cX12_void_ 73 = .ok (.getfield 420, 3) := by decide +kernel
theorem dX12_void__76 : decode cX12_void_ 76 = .ok (.iload_n 1, 1) := by decide +kernel
theorem dX12_void__77 : decode cX12_void_ 77 = .ok (.aload_n 0, 1) := by decide +kernel
theorem dX12_void__78 : decode cX12_void_ 78 = .ok (.getfield 559, 3) := by decide +kernel
theorem dX12_void__81 : decode cX12_void_ 81 = .ok (.iastore, 1) := by decide +kernel
theorem dX12_void__82 : decode cX12_void_ 82 = .ok (.aload_n 0, 1) := by decide +kernel
theorem dX12_void__83 : decode cX12_void_ 83 = .ok (.getfield 559, 3) := by decide +kernel
theorem dX12_void__86 : decode cX12_void_ 86 = .ok (.ireturn, 1) := by decide +kernel
theorem dX12_isAct_0 : decode cX12_isAct 0 = .ok (.iload_n 1, 1) := by decide +kernel
theorem dX12_isAct_1 : decode cX12_isAct 1 = .ok (.iconst (-1), 1) := by decide +kernel
theorem dX12_isAct_2 : decode cX12_isAct 2 = .ok (.aload_n 0, 1) := by decide +kernel
theorem dX12_isAct_3 : decode cX12_isAct 3 = .ok (.getfield 559, 3) := by decide +kernel
theorem dX12_isAct_6 : decode cX12_isAct 6 = .ok (.invokestatic 3, 3) := by decide +kernel
theorem dX12_isAct_9 : decode cX12_isAct 9 = .ok (.ireturn, 1) := by decide +kernel
theorem dX12_quarrels_0 : decode cX12_quarrels 0 = .ok (.aload_n 0, 1) := by decide +kernel
theorem dX12_quarrels_1 : decode cX12_quarrels 1 = .ok (.iload_n 1, 1) := by decide +kernel
theorem dX12_quarrels_2 : decode cX12_quarrels 2 = .ok (.invokevirtual 544, 3) := by decide +kernel
theorem dX12_quarrels_5 : decode cX12_quarrels 5 = .ok (.ifCond .eq 19, 3) := by decide +kernel
theorem dX12_quarrels_8 : decode cX12_quarrels 8 = .ok (.aload_n 0, 1) := by decide +kernel
theorem dX12_quarrels_9 : decode cX12_quarrels 9 = .ok (.iload_n 2, 1) := by decide +kernel
theorem dX12_quarrels_10 : decode cX12_quarrels 10 = .ok (.invokevirtual 562, 3) := by decide +kernel
theorem dX12_quarrels_13 : decode cX12_quarrels 13 = .ok (.ifCond .eq 11, 3) := by decide +kernel
theorem dX12_quarrels_16 : decode cX12_quarrels 16 = .ok (.aload_n 0, 1) := by decide +kernel
theorem dX12_quarrels_17 : decode cX12_quarrels 17 = .ok (.iload_n 1, 1) := by decide +kernel
theorem dX12_quarrels_18 : decode cX12_quarrels 18 = .ok (.invokevirtual 565, 3) := by decide +kernel
theorem dX12_quarrels_21 : decode cX12_quarrels 21 = .ok (.ifCond .ne 5, 3) := by decide +kernel
theorem dX12_quarrels_24 : decode cX12_quarrels 24 = .ok (.iconst (-1), 1) := by decide +kernel
theorem dX12_quarrels_25 : decode cX12_quarrels 25 = .ok (.ireturn, 1) := by decide +kernel
theorem dX12_quarrels_26 : decode cX12_quarrels 26 = .ok (.aload_n 0, 1) := by decide +kernel
theorem dX12_quarrels_27 : decode cX12_quarrels 27 = .ok (.iload_n 2, 1) := by decide +kernel
theorem dX12_quarrels_28 : decode cX12_quarrels 28 = .ok (.iconst (-1), 1) := by decide +kernel
theorem dX12_quarrels_29 : decode cX12_quarrels 29 = .ok (.if_icmp .ne 10, 3) := by decide +kernel
theorem dX12_quarrels_32 : decode cX12_quarrels 32 = .ok (.aload_n 0, 1) := by decide +kernel
theorem dX12_quarrels_33 : decode cX12_quarrels 33 = .ok (.getfield 559, 3) := by decide +kernel
theorem dX12_quarrels_36 : decode cX12_quarrels 36 = .ok (.goto 4, 3) := by decide +kernel
theorem dX12_quarrels_39 : decode cX12_quarrels 39 = .ok (.iload_n 2, 1) := by decide +kernel
theorem dX12_quarrels_40 : decode cX12_quarrels 40 = .ok (.invokevirtual 568, 3) := by decide +kernel
theorem dX12_quarrels_43 : decode cX12_quarrels 43 = .ok (.ireturn, 1) := by decide +kernel
theorem dX12_notesLikely_0 : decode cX12_notesLikely 0 = .ok (.aload_n 0, 1) := by decide +kernel
theorem dX12_notesLikely_1 : decode cX12_notesLikely 1 = .ok (.getfield 504, 3) := by decide +kernel
theorem dX12_notesLikely_4 : decode cX12_notesLikely 4 = .ok (.ifCond .eq 30, 3) := by decide +kernel
theorem dX12_notesLikely_7 : decode cX12_notesLikely 7 = .ok (.aload_n 0, 1) := by decide +kernel
theorem dX12_notesLikely_8 : decode cX12_notesLikely 8 = .ok (.aload_n 0, 1) := by decide +kernel
theorem dX12_notesLikely_9 : decode cX12_notesLikely 9 = .ok (.getfield 508, 3) := by decide +kernel
theorem dX12_notesLikely_12 : decode cX12_notesLikely 12 = .ok (.aload_n 0, 1) := by decide +kernel
theorem dX12_notesLikely_13 : decode cX12_notesLikely 13 = .ok (.getfield 511, 3) := by decide +kernel
theorem dX12_notesLikely_16 : decode cX12_notesLikely 16 = .ok (.aload_n 0, 1) := by decide +kernel
theorem dX12_notesLikely_17 : decode cX12_notesLikely 17 = .ok (.getfield 514, 3) := by decide +kernel
theorem dX12_notesLikely_20 : decode cX12_notesLikely 20 = .ok (.aload_n 0, 1) := by decide +kernel
theorem dX12_notesLikely_21 : decode cX12_notesLikely 21 = .ok (.getfield 517, 3) := by decide +kernel
theorem dX12_notesLikely_24 : decode cX12_notesLikely 24 = .ok (.aload_n 0, 1) := by decide +kernel
theorem dX12_notesLikely_25 : decode cX12_notesLikely 25 = .ok (.getfield 520, 3) := by decide +kernel
theorem dX12_notesLikely_28 : decode cX12_notesLikely 28 = .ok (.invokevirtual 500, 3) := by decide +kernel
theorem dX12_notesLikely_31 : decode cX12_notesLikely 31 = .ok (.ifCond .ne 5, 3) := by decide +kernel
theorem dX12_notesLikely_34 : decode cX12_notesLikely 34 = .ok (.iconst 0, 1) := by decide +kernel
theorem dX12_notesLikely_35 : decode cX12_notesLikely 35 = .ok (.ireturn, 1) := by decide +kernel
theorem dX12_notesLikely_36 : decode cX12_notesLikely 36 = .ok (.iconst 0, 1) := by decide +kernel
theorem dX12_notesLikely_37 : decode cX12_notesLikely 37 = .ok (.istore_n 1, 1) := by decide +kernel
theorem dX12_notesLikely_38 : decode cX12_notesLikely 38 = .ok (.iload_n 1, 1) := by decide +kernel
theorem dX12_notesLikely_39 : decode cX12_notesLikely 39 = .ok (.aload_n 0, 1) := by decide +kernel
theorem dX12_notesLikely_40 : decode cX12_notesLikely 40 = .ok (.getfield 559, 3) := by decide +kernel
theorem dX12_notesLikely_43 : decode cX12_notesLikely 43 = .ok (.if_icmp .gt 17, 3) := by decide +kernel
theorem dX12_notesLikely_46 : decode cX12_notesLikely 46 = .ok (.aload_n 0, 1) := by decide +kernel
theorem dX12_notesLikely_47 : decode cX12_notesLikely 47 = .ok (.getfield 426, 3) := by decide +kernel
theorem dX12_notesLikely_50 : decode cX12_notesLikely 50 = .ok (.iload_n 1, 1) := by decide +kernel
theorem dX12_notesLikely_51 : decode cX12_notesLikely 51 = .ok (.ldc 249, 2) := by decide +kernel
theorem dX12_notesLikely_53 : decode cX12_notesLikely 53 = .ok (.iastore, 1) := by decide +kernel
theorem dX12_notesLikely_54 : decode cX12_notesLikely 54 = .ok (.iinc 1 1, 3) := by decide +kernel
theorem dX12_notesLikely_57 : decode cX12_notesLikely 57 = .ok (.goto (-19), 3) := by decide +kernel
theorem dX12_notesLikely_60 : decode cX12_notesLikely 60 = .ok (.iconst 0, 1) := by decide +kernel
theorem dX12_notesLikely_61 : decode cX12_notesLikely 61 = .ok (.istore_n 1, 1) := by decide +kernel
theorem dX12_notesLikely_62 : decode cX12_notesLikely 62 = .ok (.iload_n 1, 1) := by decide +kernel
theorem dX12_notesLikely_63 : decode cX12_notesLikely 63 = .ok (.aload_n 0, 1) := by decide +kernel
theorem dX12_notesLikely_64 : decode cX12_notesLikely 64 = .ok (.invokevirtual 532, 3) := by decide +kernel
theorem dX12_notesLikely_67 : decode cX12_notesLikely 67 = .ok (.if_icmp .ge 64, 3) := by decide +kernel
theorem dX12_notesLikely_70 : decode cX12_notesLikely 70 = .ok (.aload_n 0, 1) := by decide +kernel
theorem dX12_notesLikely_71 : decode cX12_notesLikely 71 = .ok (.iload_n 1, 1) := by decide +kernel
theorem dX12_notesLikely_72 : decode cX12_notesLikely 72 = .ok (.invokevirtual 565, 3) := by decide +kernel
theorem dX12_notesLikely_75 : decode cX12_notesLikely 75 = .ok (.pop, 1) := by decide +kernel
theorem dX12_notesLikely_76 : decode cX12_notesLikely 76 = .ok (.iconst 0, 1) := by decide +kernel
theorem dX12_notesLikely_77 : decode cX12_notesLikely 77 = .ok (.istore_n 2, 1) := by decide +kernel
theorem dX12_notesLikely_78 : decode cX12_notesLikely 78 = .ok (.iload_n 2, 1) := by decide +kernel
theorem dX12_notesLikely_79 : decode cX12_notesLikely 79 = .ok (.aload_n 0, 1) := by decide +kernel
theorem dX12_notesLikely_80 : decode cX12_notesLikely 80 = .ok (.getfield 559, 3) := by decide +kernel
theorem dX12_notesLikely_83 : decode cX12_notesLikely 83 = .ok (.if_icmp .gt 42, 3) := by decide +kernel
theorem dX12_notesLikely_86 : decode cX12_notesLikely 86 = .ok (.aload_n 0, 1) := by decide +kernel
theorem dX12_notesLikely_87 : decode cX12_notesLikely 87 = .ok (.iload_n 2, 1) := by decide +kernel
theorem dX12_notesLikely_88 : decode cX12_notesLikely 88 = .ok (.invokevirtual 568, 3) := by decide +kernel
theorem dX12_notesLikely_91 : decode cX12_notesLikely 91 = .ok (.istore_n 3, 1) := by decide +kernel
theorem dX12_notesLikely_92 : decode cX12_notesLikely 92 = .ok (.iload_n 3, 1) := by decide +kernel
theorem dX12_notesLikely_93 : decode cX12_notesLikely 93 = .ok (.aload_n 0, 1) := by decide +kernel
theorem dX12_notesLikely_94 : decode cX12_notesLikely 94 = .ok (.getfield 426, 3) := by decide +kernel
theorem dX12_notesLikely_97 : decode cX12_notesLikely 97 = .ok (.iload_n 2, 1) := by decide +kernel
theorem dX12_notesLikely_98 : decode cX12_notesLikely 98 = .ok (.iaload, 1) := by decide +kernel
theorem dX12_notesLikely_99 : decode cX12_notesLikely 99 = .ok (.if_icmp .lt 6, 3) := by decide +kernel
theorem dX12_notesLikely_102 : decode cX12_notesLikely 102 = .ok (.goto 17, 3) := by decide +kernel
theorem dX12_notesLikely_105 : decode cX12_notesLikely 105 = .ok (.aload_n 0, 1) := by decide +kernel
theorem dX12_notesLikely_106 : decode cX12_notesLikely 106 = .ok (.getfield 426, 3) := by decide +kernel
theorem dX12_notesLikely_109 : decode cX12_notesLikely 109 = .ok (.iload_n 2, 1) := by decide +kernel
theorem dX12_notesLikely_110 : decode cX12_notesLikely 110 = .ok (.iload_n 3, 1) := by decide +kernel
theorem dX12_notesLikely_111 : decode cX12_notesLikely 111 = .ok (.iastore, 1) := by decide +kernel
theorem dX12_notesLikely_112 : decode cX12_notesLikely 112 = .ok (.aload_n 0, 1) := by decide +kernel
theorem dX12_notesLikely_113 : decode cX12_notesLikely 113 = .ok (.getfield 429, 3) := by decide +kernel
theorem dX12_notesLikely_116 : decode cX12_notesLikely 116 = .ok (.iload_n 2, 1) := by decide +kernel
theorem dX12_notesLikely_117 : decode cX12_notesLikely 117 = .ok (.iload_n 1, 1) := by decide +kernel
theorem dX12_notesLikely_118 : decode cX12_notesLikely 118 = .ok (.iastore, 1) := by decide +kernel
theorem dX12_notesLikely_119 : decode cX12_notesLikely 119 = .ok (.iinc 2 1, 3) := by decide +kernel
theorem dX12_notesLikely_122 : decode cX12_notesLikely 122 = .ok (.goto (-44), 3) := by decide +kernel
theorem dX12_notesLikely_125 : decode cX12_notesLikely 125 = .ok (.iinc 1 1, 3) := by decide +kernel
theorem dX12_notesLikely_128 : decode cX12_notesLikely 128 = .ok (.goto (-66), 3) := by decide +kernel
theorem dX12_notesLikely_131 : decode cX12_notesLikely 131 = .ok (.iconst 1, 1) := by decide +kernel
theorem dX12_notesLikely_132 : decode cX12_notesLikely 132 = .ok (.ireturn, 1) := by decide +kernel
theorem dX12_likely_0 : decode cX12_likely 0 = .ok (.aload_n 0, 1) := by decide +kernel
theorem dX12_likely_1 : decode cX12_likely 1 = .ok (.iload_n 1, 1) := by decide +kernel
theorem dX12_likely_2 : decode cX12_likely 2 = .ok (.invokevirtual 562, 3) := by decide +kernel
theorem dX12_likely_5 : decode cX12_likely 5 = .ok (.ifCond .eq 31, 3) := by decide +kernel
theorem dX12_likely_8 : decode cX12_likely 8 = .ok (.aload_n 0, 1) := by decide +kernel
theorem dX12_likely_9 : decode cX12_likely 9 = .ok (.invokevirtual 571, 3) := by decide +kernel
theorem dX12_likely_12 : decode cX12_likely 12 = .ok (.ifCond .eq 24, 3) := by decide +kernel
theorem dX12_likely_15 : decode cX12_likely 15 = .ok (.aload_n 0, 1) := by decide +kernel
theorem dX12_likely_16 : decode cX12_likely 16 = .ok (.getfield 429, 3) := by decide +kernel
theorem dX12_likely_19 : decode cX12_likely 19 = .ok (.iload_n 1, 1) := by decide +kernel
theorem dX12_likely_20 : decode cX12_likely 20 = .ok (.iconst (-1), 1) := by decide +kernel
theorem dX12_likely_21 : decode cX12_likely 21 = .ok (.if_icmp .ne 10, 3) := by decide +kernel
theorem dX12_likely_24 : decode cX12_likely 24 = .ok (.aload_n 0, 1) := by decide +kernel
theorem dX12_likely_25 : decode cX12_likely 25 = .ok (.getfield 559, 3) := by decide +kernel
theorem dX12_likely_28 : decode cX12_likely 28 = .ok (.goto 4, 3) := by decide +kernel
theorem dX12_likely_31 : decode cX12_likely 31 = .ok (.iload_n 1, 1) := by decide +kernel
theorem dX12_likely_32 : decode cX12_likely 32 = .ok (.iaload, 1) := by decide +kernel
theorem dX12_likely_33 : decode cX12_likely 33 = .ok (.goto 4, 3) := by decide +kernel
theorem dX12_likely_36 : decode cX12_likely 36 = .ok (.iconst (-1), 1) := by decide +kernel
theorem dX12_likely_37 : decode cX12_likely 37 = .ok (.ireturn, 1) := by decide +kernel
theorem dX12_since_0 : decode cX12_since 0 = .ok (.aload_n 0, 1) := by decide +kernel
theorem dX12_since_1 : decode cX12_since 1 = .ok (.invokevirtual 571, 3) := by decide +kernel
theorem dX12_since_4 : decode cX12_since 4 = .ok (.ifCond .ne 5, 3) := by decide +kernel
theorem dX12_since_7 : decode cX12_since 7 = .ok (.iconst (-1), 1) := by decide +kernel
theorem dX12_since_8 : decode cX12_since 8 = .ok (.ireturn, 1) := by decide +kernel
theorem dX12_since_9 : decode cX12_since 9 = .ok (.aload_n 0, 1) := by decide +kernel
theorem dX12_since_10 : decode cX12_since 10 = .ok (.getfield 559, 3) := by decide +kernel
theorem dX12_since_13 : decode cX12_since 13 = .ok (.istore_n 1, 1) := by decide +kernel
theorem dX12_since_14 : decode cX12_since 14 = .ok (.iload_n 1, 1) := by decide +kernel
theorem dX12_since_15 : decode cX12_since 15 = .ok (.ifCond .le 29, 3) := by decide +kernel
theorem dX12_since_18 : decode cX12_since 18 = .ok (.aload_n 0, 1) := by decide +kernel
theorem dX12_since_19 : decode cX12_since 19 = .ok (.getfield 429, 3) := by decide +kernel
theorem dX12_since_22 : decode cX12_since 22 = .ok (.iload_n 1, 1) := by decide +kernel
theorem dX12_since_23 : decode cX12_since 23 = .ok (.iconst 1, 1) := by decide +kernel
theorem dX12_since_24 : decode cX12_since 24 = .ok (.isub, 1) := by decide +kernel
theorem dX12_since_25 : decode cX12_since 25 = .ok (.iaload, 1) := by decide +kernel
theorem dX12_since_26 : decode cX12_since 26 = .ok (.aload_n 0, 1) := by decide +kernel
theorem dX12_since_27 : decode cX12_since 27 = .ok (.getfield 429, 3) := by decide +kernel
theorem dX12_since_30 : decode cX12_since 30 = .ok (.aload_n 0, 1) := by decide +kernel
theorem dX12_since_31 : decode cX12_since 31 = .ok (.getfield 559, 3) := by decide +kernel
theorem dX12_since_34 : decode cX12_since 34 = .ok (.iaload, 1) := by decide +kernel
theorem dX12_since_35 : decode cX12_since 35 = .ok (.if_icmp .ne 9, 3) := by decide +kernel
theorem dX12_since_38 : decode cX12_since 38 = .ok (.iinc 1 (-1), 3) := by decide +kernel
theorem dX12_since_41 : decode cX12_since 41 = .ok (.goto (-27), 3) := by decide +kernel
theorem dX12_since_44 : decode cX12_since 44 = .ok (.iload_n 1, 1) := by decide +kernel
theorem dX12_since_45 : decode cX12_since 45 = .ok (.ireturn, 1) := by decide +kernel
theorem dX12_all_0 : decode cX12_all 0 = .ok (.iconst 0, 1) := by decide +kernel
theorem dX12_all_1 : decode cX12_all 1 = .ok (.istore_n 2, 1) := by decide +kernel
theorem dX12_all_2 : decode cX12_all 2 = .ok (.iload_n 1, 1) := by decide +kernel
theorem dX12_all_3 : decode cX12_all 3 = .ok (.tableswitch 136 0 5 #[37, 65, 93, 121, 126, 131], 37) := by decide +kernel
theorem dX12_all_40 : decode cX12_all 40 = .ok (.iconst 0, 1) := by decide +kernel
theorem dX12_all_41 : decode cX12_all 41 = .ok (.istore_n 3, 1) := by decide +kernel
theorem dX12_all_42 : decode cX12_all 42 = .ok (.iload_n 3, 1) := by decide +kernel
theorem dX12_all_43 : decode cX12_all 43 = .ok (.bipush 8, 2) := by decide +kernel
theorem dX12_all_45 : decode cX12_all 45 = .ok (.if_icmp .ge 21, 3) := by decide +kernel
theorem dX12_all_48 : decode cX12_all 48 = .ok (.aload_n 0, 1) := by decide +kernel
theorem dX12_all_49 : decode cX12_all 49 = .ok (.getfield 49, 3) := by decide +kernel
theorem dX12_all_52 : decode cX12_all 52 = .ok (.iload_n 3, 1) := by decide +kernel
theorem dX12_all_53 : decode cX12_all 53 = .ok (.baload, 1) := by decide +kernel
theorem dX12_all_54 : decode cX12_all 54 = .ok (.ifCond .eq 6, 3) := by decide +kernel
theorem dX12_all_57 : decode cX12_all 57 = .ok (.iinc 2 1, 3) := by decide +kernel
theorem dX12_all_60 : decode cX12_all 60 = .ok (.iinc 3 1, 3) := by decide +kernel
theorem dX12_all_63 : decode cX12_all 63 = .ok (.goto (-21), 3) := by decide +kernel
theorem dX12_all_66 : decode cX12_all 66 = .ok (.iload_n 2, 1) := by decide +kernel
theorem dX12_all_67 : decode cX12_all 67 = .ok (.ireturn, 1) := by decide +kernel
theorem dX12_all_68 : decode cX12_all 68 = .ok (.iconst 0, 1) := by decide +kernel
theorem dX12_all_69 : decode cX12_all 69 = .ok (.istore_n 3, 1) := by decide +kernel
theorem dX12_all_70 : decode cX12_all 70 = .ok (.iload_n 3, 1) := by decide +kernel
theorem dX12_all_71 : decode cX12_all 71 = .ok (.bipush 12, 2) := by decide +kernel
theorem dX12_all_73 : decode cX12_all 73 = .ok (.if_icmp .ge 21, 3) := by decide +kernel
theorem dX12_all_76 : decode cX12_all 76 = .ok (.aload_n 0, 1) := by decide +kernel
theorem dX12_all_77 : decode cX12_all 77 = .ok (.getfield 60, 3) := by decide +kernel
theorem dX12_all_80 : decode cX12_all 80 = .ok (.iload_n 3, 1) := by decide +kernel
theorem dX12_all_81 : decode cX12_all 81 = .ok (.baload, 1) := by decide +kernel
theorem dX12_all_82 : decode cX12_all 82 = .ok (.ifCond .eq 6, 3) := by decide +kernel
theorem dX12_all_85 : decode cX12_all 85 = .ok (.iinc 2 1, 3) := by decide +kernel
theorem dX12_all_88 : decode cX12_all 88 = .ok (.iinc 3 1, 3) := by decide +kernel
theorem dX12_all_91 : decode cX12_all 91 = .ok (.goto (-21), 3) := by decide +kernel
theorem dX12_all_94 : decode cX12_all 94 = .ok (.iload_n 2, 1) := by decide +kernel
theorem dX12_all_95 : decode cX12_all 95 = .ok (.ireturn, 1) := by decide +kernel
theorem dX12_all_96 : decode cX12_all 96 = .ok (.iconst 0, 1) := by decide +kernel
theorem dX12_all_97 : decode cX12_all 97 = .ok (.istore_n 3, 1) := by decide +kernel
theorem dX12_all_98 : decode cX12_all 98 = .ok (.iload_n 3, 1) := by decide +kernel
theorem dX12_all_99 : decode cX12_all 99 = .ok (.bipush 8, 2) := by decide +kernel
theorem dX12_all_101 : decode cX12_all 101 = .ok (.if_icmp .ge 21, 3) := by decide +kernel
theorem dX12_all_104 : decode cX12_all 104 = .ok (.aload_n 0, 1) := by decide +kernel
theorem dX12_all_105 : decode cX12_all 105 = .ok (.getfield 78, 3) := by decide +kernel
theorem dX12_all_108 : decode cX12_all 108 = .ok (.iload_n 3, 1) := by decide +kernel
theorem dX12_all_109 : decode cX12_all 109 = .ok (.baload, 1) := by decide +kernel
theorem dX12_all_110 : decode cX12_all 110 = .ok (.ifCond .eq 6, 3) := by decide +kernel
theorem dX12_all_113 : decode cX12_all 113 = .ok (.iinc 2 1, 3) := by decide +kernel
theorem dX12_all_116 : decode cX12_all 116 = .ok (.iinc 3 1, 3) := by decide +kernel
theorem dX12_all_119 : decode cX12_all 119 = .ok (.goto (-21), 3) := by decide +kernel
theorem dX12_all_122 : decode cX12_all 122 = .ok (.iload_n 2, 1) := by decide +kernel
theorem dX12_all_123 : decode cX12_all 123 = .ok (.ireturn, 1) := by decide +kernel
theorem dX12_all_124 : decode cX12_all 124 = .ok (.aload_n 0, 1) := by decide +kernel
theorem dX12_all_125 : decode cX12_all 125 = .ok (.getfield 559, 3) := by decide +kernel
theorem dX12_all_128 : decode cX12_all 128 = .ok (.ireturn, 1) := by decide +kernel
theorem dX12_all_129 : decode cX12_all 129 = .ok (.aload_n 0, 1) := by decide +kernel
theorem dX12_all_130 : decode cX12_all 130 = .ok (.invokevirtual 532, 3) := by decide +kernel
theorem dX12_all_133 : decode cX12_all 133 = .ok (.ireturn, 1) := by decide +kernel
theorem dX12_all_134 : decode cX12_all 134 = .ok (.aload_n 0, 1) := by decide +kernel
theorem dX12_all_135 : decode cX12_all 135 = .ok (.getfield 464, 3) := by decide +kernel
theorem dX12_all_138 : decode cX12_all 138 = .ok (.ireturn, 1) := by decide +kernel
theorem dX12_all_139 : decode cX12_all 139 = .ok (.iconst (-1), 1) := by decide +kernel
theorem dX12_all_140 : decode cX12_all 140 = .ok (.ireturn, 1) := by decide +kernel
theorem dJ9_floorDiv_7cf53_0 : decode cJ9_floorDiv_7cf53 0 = .ok (.iload_n 0, 1) := by decide +kernel
theorem dJ9_floorDiv_7cf53_1 : decode cJ9_floorDiv_7cf53 1 = .ok (.iload_n 1, 1) := by decide +kernel
theorem dJ9_floorDiv_7cf53_2 : decode cJ9_floorDiv_7cf53 2 = .ok (.idiv, 1) := by decide +kernel
theorem dJ9_floorDiv_7cf53_3 : decode cJ9_floorDiv_7cf53 3 = .ok (.istore_n 2, 1) := by decide +kernel
theorem dJ9_floorDiv_7cf53_4 : decode cJ9_floorDiv_7cf53 4 = .ok (.iload_n 0, 1) := by decide +kernel
theorem dJ9_floorDiv_7cf53_5 : decode cJ9_floorDiv_7cf53 5 = .ok (.iload_n 1, 1) := by decide +kernel
theorem dJ9_floorDiv_7cf53_6 : decode cJ9_floorDiv_7cf53 6 = .ok (.ixor, 1) := by decide +kernel
theorem dJ9_floorDiv_7cf53_7 : decode cJ9_floorDiv_7cf53 7 = .ok (.ifCond .ge 14, 3) := by decide +kernel
theorem dJ9_floorDiv_7cf53_10 : decode cJ9_floorDiv_7cf53 10 = .ok (.iload_n 2, 1) := by decide +kernel
theorem dJ9_floorDiv_7cf53_11 : decode cJ9_floorDiv_7cf53 11 = .ok (.iload_n 1, 1) := by decide +kernel
theorem dJ9_floorDiv_7cf53_12 : decode cJ9_floorDiv_7cf53 12 = .ok (.imul, 1) := by decide +kernel
theorem dJ9_floorDiv_7cf53_13 : decode cJ9_floorDiv_7cf53 13 = .ok (.iload_n 0, 1) := by decide +kernel
theorem dJ9_floorDiv_7cf53_14 : decode cJ9_floorDiv_7cf53 14 = .ok (.if_icmp .eq 7, 3) := by decide +kernel
theorem dJ9_floorDiv_7cf53_17 : decode cJ9_floorDiv_7cf53 17 = .ok (.iload_n 2, 1) := by decide +kernel
theorem dJ9_floorDiv_7cf53_18 : decode cJ9_floorDiv_7cf53 18 = .ok (.iconst 1, 1) := by decide +kernel
theorem dJ9_floorDiv_7cf53_19 : decode cJ9_floorDiv_7cf53 19 = .ok (.isub, 1) := by decide +kernel
theorem dJ9_floorDiv_7cf53_20 : decode cJ9_floorDiv_7cf53 20 = .ok (.ireturn, 1) := by decide +kernel
theorem dJ9_floorDiv_7cf53_21 : decode cJ9_floorDiv_7cf53 21 = .ok (.iload_n 2, 1) := by decide +kernel
theorem dJ9_floorDiv_7cf53_22 : decode cJ9_floorDiv_7cf53 22 = .ok (.ireturn, 1) := by decide +kernel
