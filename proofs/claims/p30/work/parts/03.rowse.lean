theorem dX12_feed_0 : decode cX12_feed 0 = .ok (.aload_n 0, 1) := by decide +kernel
theorem dX12_feed_1 : decode cX12_feed 1 = .ok (.getfield 186, 3) := by decide +kernel
theorem dX12_feed_4 : decode cX12_feed 4 = .ok (.bipush 20, 2) := by decide +kernel
theorem dX12_feed_6 : decode cX12_feed 6 = .ok (.iadd, 1) := by decide +kernel
theorem dX12_feed_7 : decode cX12_feed 7 = .ok (.sipush 600, 3) := by decide +kernel
theorem dX12_feed_10 : decode cX12_feed 10 = .ok (.if_icmp .le 5, 3) := by decide +kernel
theorem dX12_feed_13 : decode cX12_feed 13 = .ok (.iconst (-1), 1) := by decide +kernel
theorem dX12_feed_14 : decode cX12_feed 14 = .ok (.ireturn, 1) := by decide +kernel
theorem dX12_feed_15 : decode cX12_feed 15 = .ok (.iconst 0, 1) := by decide +kernel
theorem dX12_feed_16 : decode cX12_feed 16 = .ok (.istore 6, 2) := by decide +kernel
theorem dX12_feed_18 : decode cX12_feed 18 = .ok (.iload 6, 2) := by decide +kernel
theorem dX12_feed_20 : decode cX12_feed 20 = .ok (.bipush 20, 2) := by decide +kernel
theorem dX12_feed_22 : decode cX12_feed 22 = .ok (.if_icmp .ge 92, 3) := by decide +kernel
theorem dX12_feed_25 : decode cX12_feed 25 = .ok (.iload 6, 2) := by decide +kernel
theorem dX12_feed_27 : decode cX12_feed 27 = .ok (.iconst 4, 1) := by decide +kernel
theorem dX12_feed_28 : decode cX12_feed 28 = .ok (.if_icmp .ge 7, 3) := by decide +kernel
theorem dX12_feed_31 : decode cX12_feed 31 = .ok (.iload_n 1, 1) := by decide +kernel
theorem dX12_feed_32 : decode cX12_feed 32 = .ok (.goto 39, 3) := by decide +kernel
theorem dX12_feed_35 : decode cX12_feed 35 = .ok (.iload 6, 2) := by decide +kernel
theorem dX12_feed_37 : decode cX12_feed 37 = .ok (.bipush 8, 2) := by decide +kernel
theorem dX12_feed_39 : decode cX12_feed 39 = .ok (.if_icmp .ge 7, 3) := by decide +kernel
theorem dX12_feed_42 : decode cX12_feed 42 = .ok (.iload_n 2, 1) := by decide +kernel
theorem dX12_feed_43 : decode cX12_feed 43 = .ok (.goto 28, 3) := by decide +kernel
theorem dX12_feed_46 : decode cX12_feed 46 = .ok (.iload 6, 2) := by decide +kernel
theorem dX12_feed_48 : decode cX12_feed 48 = .ok (.bipush 12, 2) := by decide +kernel
theorem dX12_feed_50 : decode cX12_feed 50 = .ok (.if_icmp .ge 7, 3) := by decide +kernel
theorem dX12_feed_53 : decode cX12_feed 53 = .ok (.iload_n 3, 1) := by decide +kernel
theorem dX12_feed_54 : decode cX12_feed 54 = .ok (.goto 17, 3) := by decide +kernel
theorem dX12_feed_57 : decode cX12_feed 57 = .ok (.iload 6, 2) := by decide +kernel
theorem dX12_feed_59 : decode cX12_feed 59 = .ok (.bipush 16, 2) := by decide +kernel
theorem dX12_feed_61 : decode cX12_feed 61 = .ok (.if_icmp .ge 8, 3) := by decide +kernel
theorem dX12_feed_64 : decode cX12_feed 64 = .ok (.iload 4, 2) := by decide +kernel
theorem dX12_feed_66 : decode cX12_feed 66 = .ok (.goto 5, 3) := by decide +kernel
theorem dX12_feed_69 : decode cX12_feed 69 = .ok (.iload 5, 2) := by decide +kernel
theorem dX12_feed_71 : decode cX12_feed 71 = .ok (.istore 7, 2) := by decide +kernel
theorem dX12_feed_73 : decode cX12_feed 73 = .ok (.aload_n 0, 1) := by decide +kernel
theorem dX12_feed_74 : decode cX12_feed 74 = .ok (.getfield 189, 3) := by decide +kernel
theorem dX12_feed_77 : decode cX12_feed 77 = .ok (.aload_n 0, 1) := by decide +kernel
theorem dX12_feed_78 : decode cX12_feed 78 = .ok (.getfield 186, 3) := by decide +kernel
theorem dX12_feed_81 : decode cX12_feed 81 = .ok (.iload 7, 2) := by decide +kernel
theorem dX12_feed_83 : decode cX12_feed 83 = .ok (.bipush 8, 2) := by decide +kernel
theorem dX12_feed_85 : decode cX12_feed 85 = .ok (.iconst 3, 1) := by decide +kernel
theorem dX12_feed_86 : decode cX12_feed 86 = .ok (.iload 6, 2) := by decide +kernel
theorem dX12_feed_88 : decode cX12_feed 88 = .ok (.iconst 4, 1) := by decide +kernel
theorem dX12_feed_89 : decode cX12_feed 89 = .ok (.irem, 1) := by decide +kernel
theorem dX12_feed_90 : decode cX12_feed 90 = .ok (.isub, 1) := by decide +kernel
theorem dX12_feed_91 : decode cX12_feed 91 = .ok (.imul, 1) := by decide +kernel
theorem dX12_feed_92 : decode cX12_feed 92 = .ok (.ishr, 1) := by decide +kernel
theorem dX12_feed_93 : decode cX12_feed 93 = .ok (.sipush 255, 3) := by decide +kernel
theorem dX12_feed_96 : decode cX12_feed 96 = .ok (.iand, 1) := by decide +kernel
theorem dX12_feed_97 : decode cX12_feed 97 = .ok (.iastore, 1) := by decide +kernel
theorem dX12_feed_98 : decode cX12_feed 98 = .ok (.aload_n 0, 1) := by decide +kernel
theorem dX12_feed_99 : decode cX12_feed 99 = .ok (.dup, 1) := by decide +kernel
theorem dX12_feed_100 : decode cX12_feed 100 = .ok (.getfield 186, 3) := by decide +kernel
theorem dX12_feed_103 : decode cX12_feed 103 = .ok (.iconst 1, 1) := by decide +kernel
theorem dX12_feed_104 : decode cX12_feed 104 = .ok (.iadd, 1) := by decide +kernel
theorem dX12_feed_105 : decode cX12_feed 105 = .ok (.putfield 186, 3) := by decide +kernel
theorem dX12_feed_108 : decode cX12_feed 108 = .ok (.iinc 6 1, 3) := by decide +kernel
theorem dX12_feed_111 : decode cX12_feed 111 = .ok (.goto (-93), 3) := by decide +kernel
theorem dX12_feed_114 : decode cX12_feed 114 = .ok (.aload_n 0, 1) := by decide +kernel
theorem dX12_feed_115 : decode cX12_feed 115 = .ok (.getfield 186, 3) := by decide +kernel
theorem dX12_feed_118 : decode cX12_feed 118 = .ok (.ireturn, 1) := by decide +kernel
theorem dX12_end_0 : decode cX12_end 0 = .ok (.iload_n 1, 1) := by decide +kernel
theorem dX12_end_1 : decode cX12_end 1 = .ok (.ifCond .lt 11, 3) := by decide +kernel
theorem dX12_end_4 : decode cX12_end 4 = .ok (.iload_n 1, 1) := by decide +kernel
theorem dX12_end_5 : decode cX12_end 5 = .ok (.aload_n 0, 1) := by decide +kernel
theorem dX12_end_6 : decode cX12_end 6 = .ok (.getfield 186, 3) := by decide +kernel
theorem dX12_end_9 : decode cX12_end 9 = .ok (.if_icmp .le 5, 3) := by decide +kernel
theorem dX12_end_12 : decode cX12_end 12 = .ok (.iconst 0, 1) := by decide +kernel
theorem dX12_end_13 : decode cX12_end 13 = .ok (.ireturn, 1) := by decide +kernel
theorem dX12_end_14 : decode cX12_end 14 = .ok (.aload_n 0, 1) := by decide +kernel
theorem dX12_end_15 : decode cX12_end 15 = .ok (.iload_n 1, 1) := by decide +kernel
theorem dX12_end_16 : decode cX12_end 16 = .ok (.putfield 186, 3) := by decide +kernel
theorem dX12_end_19 : decode cX12_end 19 = .ok (.iconst 1, 1) := by decide +kernel
theorem dX12_end_20 : decode cX12_end 20 = .ok (.ireturn, 1) := by decide +kernel
theorem dX12_fail_0 : decode cX12_fail 0 = .ok (.aload_n 0, 1) := by decide +kernel
theorem dX12_fail_1 : decode cX12_fail 1 = .ok (.getfield 192, 3) := by decide +kernel
theorem dX12_fail_4 : decode cX12_fail 4 = .ok (.ifCond .eq 4, 3) := by decide +kernel
theorem dX12_fail_7 : decode cX12_fail 7 = .ok (.return_, 1) := by decide +kernel
theorem dX12_fail_8 : decode cX12_fail 8 = .ok (.aload_n 0, 1) := by decide +kernel
theorem dX12_fail_9 : decode cX12_fail 9 = .ok (.iload_n 1, 1) := by decide +kernel
theorem dX12_fail_10 : decode cX12_fail 10 = .ok (.putfield 192, 3) := by decide +kernel
theorem dX12_fail_13 : decode cX12_fail 13 = .ok (.aload_n 0, 1) := by decide +kernel
theorem dX12_fail_14 : decode cX12_fail 14 = .ok (.iload_n 2, 1) := by decide +kernel
theorem dX12_fail_15 : decode cX12_fail 15 = .ok (.putfield 195, 3) := by decide +kernel
theorem dX12_fail_18 : decode cX12_fail 18 = .ok (.return_, 1) := by decide +kernel
theorem dX12_isLetter_0 : decode cX12_isLetter 0 = .ok (.iload_n 0, 1) := by decide +kernel
theorem dX12_isLetter_1 : decode cX12_isLetter 1 = .ok (.bipush 97, 2) := by decide +kernel
theorem dX12_isLetter_3 : decode cX12_isLetter 3 = .ok (.if_icmp .lt 13, 3) := by decide +kernel
theorem dX12_isLetter_6 : decode cX12_isLetter 6 = .ok (.iload_n 0, 1) := by decide +kernel
theorem dX12_isLetter_7 : decode cX12_isLetter 7 = .ok (.bipush 122, 2) := by decide +kernel
theorem dX12_isLetter_9 : decode cX12_isLetter 9 = .ok (.if_icmp .gt 7, 3) := by decide +kernel
theorem dX12_isLetter_12 : decode cX12_isLetter 12 = .ok (.iconst 1, 1) := by decide +kernel
theorem dX12_isLetter_13 : decode cX12_isLetter 13 = .ok (.goto 4, 3) := by decide +kernel
theorem dX12_isLetter_16 : decode cX12_isLetter 16 = .ok (.iconst 0, 1) := by decide +kernel
theorem dX12_isLetter_17 : decode cX12_isLetter 17 = .ok (.ireturn, 1) := by decide +kernel
theorem dX12_isDigit_0 : decode cX12_isDigit 0 = .ok (.iload_n 0, 1) := by decide +kernel
theorem dX12_isDigit_1 : decode cX12_isDigit 1 = .ok (.bipush 48, 2) := by decide +kernel
theorem dX12_isDigit_3 : decode cX12_isDigit 3 = .ok (.if_icmp .lt 13, 3) := by decide +kernel
theorem dX12_isDigit_6 : decode cX12_isDigit 6 = .ok (.iload_n 0, 1) := by decide +kernel
theorem dX12_isDigit_7 : decode cX12_isDigit 7 = .ok (.bipush 57, 2) := by decide +kernel
theorem dX12_isDigit_9 : decode cX12_isDigit 9 = .ok (.if_icmp .gt 7, 3) := by decide +kernel
theorem dX12_isDigit_12 : decode cX12_isDigit 12 = .ok (.iconst 1, 1) := by decide +kernel
theorem dX12_isDigit_13 : decode cX12_isDigit 13 = .ok (.goto 4, 3) := by decide +kernel
theorem dX12_isDigit_16 : decode cX12_isDigit 16 = .ok (.iconst 0, 1) := by decide +kernel
theorem dX12_isDigit_17 : decode cX12_isDigit 17 = .ok (.ireturn, 1) := by decide +kernel
theorem dX12_next_0 : decode cX12_next 0 = .ok (.aload_n 0, 1) := by decide +kernel
theorem dX12_next_1 : decode cX12_next 1 = .ok (.getfield 198, 3) := by decide +kernel
theorem dX12_next_4 : decode cX12_next 4 = .ok (.aload_n 0, 1) := by decide +kernel
theorem dX12_next_5 : decode cX12_next 5 = .ok (.getfield 201, 3) := by decide +kernel
theorem dX12_next_8 : decode cX12_next 8 = .ok (.if_icmp .ge 44, 3) := by decide +kernel
theorem dX12_next_11 : decode cX12_next 11 = .ok (.aload_n 0, 1) := by decide +kernel
theorem dX12_next_12 : decode cX12_next 12 = .ok (.getfield 189, 3) := by decide +kernel
theorem dX12_next_15 : decode cX12_next 15 = .ok (.aload_n 0, 1) := by decide +kernel
theorem dX12_next_16 : decode cX12_next 16 = .ok (.getfield 198, 3) := by decide +kernel
theorem dX12_next_19 : decode cX12_next 19 = .ok (.iaload, 1) := by decide +kernel
theorem dX12_next_20 : decode cX12_next 20 = .ok (.bipush 10, 2) := by decide +kernel
theorem dX12_next_22 : decode cX12_next 22 = .ok (.if_icmp .eq 17, 3) := by decide +kernel
theorem dX12_next_25 : decode cX12_next 25 = .ok (.aload_n 0, 1) := by decide +kernel
theorem dX12_next_26 : decode cX12_next 26 = .ok (.getfield 189, 3) := by decide +kernel
theorem dX12_next_29 : decode cX12_next 29 = .ok (.aload_n 0, 1) := by decide +kernel
theorem dX12_next_30 : decode cX12_next 30 = .ok (.getfield 198, 3) := by decide +kernel
theorem dX12_next_33 : decode cX12_next 33 = .ok (.iaload, 1) := by decide +kernel
theorem dX12_next_34 : decode cX12_next 34 = .ok (.bipush 32, 2) := by decide +kernel
theorem dX12_next_36 : decode cX12_next 36 = .ok (.if_icmp .ne 16, 3) := by decide +kernel
theorem dX12_next_39 : decode cX12_next 39 = .ok (.aload_n 0, 1) := by decide +kernel
theorem dX12_next_40 : decode cX12_next 40 = .ok (.dup, 1) := by decide +kernel
theorem dX12_next_41 : decode cX12_next 41 = .ok (.getfield 198, 3) := by decide +kernel
theorem dX12_next_44 : decode cX12_next 44 = .ok (.iconst 1, 1) := by decide +kernel
theorem dX12_next_45 : decode cX12_next 45 = .ok (.iadd, 1) := by decide +kernel
theorem dX12_next_46 : decode cX12_next 46 = .ok (.putfield 198, 3) := by decide +kernel
theorem dX12_next_49 : decode cX12_next 49 = .ok (.goto (-49), 3) := by decide +kernel
theorem dX12_next_52 : decode cX12_next 52 = .ok (.aload_n 0, 1) := by decide +kernel
theorem dX12_next_53 : decode cX12_next 53 = .ok (.getfield 198, 3) := by decide +kernel
theorem dX12_next_56 : decode cX12_next 56 = .ok (.aload_n 0, 1) := by decide +kernel
theorem dX12_next_57 : decode cX12_next 57 = .ok (.getfield 201, 3) := by decide +kernel
theorem dX12_next_60 : decode cX12_next 60 = .ok (.if_icmp .ge 15, 3) := by decide +kernel
theorem dX12_next_63 : decode cX12_next 63 = .ok (.aload_n 0, 1) := by decide +kernel
theorem dX12_next_64 : decode cX12_next 64 = .ok (.getfield 189, 3) := by decide +kernel
theorem dX12_next_67 : decode cX12_next 67 = .ok (.aload_n 0, 1) := by decide +kernel
theorem dX12_next_68 : decode cX12_next 68 = .ok (.getfield 198, 3) := by decide +kernel
theorem dX12_next_71 : decode cX12_next 71 = .ok (.iaload, 1) := by decide +kernel
theorem dX12_next_72 : decode cX12_next 72 = .ok (.goto 4, 3) := by decide +kernel
theorem dX12_next_75 : decode cX12_next 75 = .ok (.iconst (-1), 1) := by decide +kernel
theorem dX12_next_76 : decode cX12_next 76 = .ok (.ireturn, 1) := by decide +kernel
theorem dX12_takes_0 : decode cX12_takes 0 = .ok (.aload_n 0, 1) := by decide +kernel
theorem dX12_takes_1 : decode cX12_takes 1 = .ok (.getfield 192, 3) := by decide +kernel
theorem dX12_takes_4 : decode cX12_takes 4 = .ok (.ifCond .ne 24, 3) := by decide +kernel
theorem dX12_takes_7 : decode cX12_takes 7 = .ok (.aload_n 0, 1) := by decide +kernel
theorem dX12_takes_8 : decode cX12_takes 8 = .ok (.invokevirtual 204, 3) := by decide +kernel
theorem dX12_takes_11 : decode cX12_takes 11 = .ok (.invokestatic 207, 3) := by decide +kernel
theorem dX12_takes_14 : decode cX12_takes 14 = .ok (.ifCond .eq 14, 3) := by decide +kernel
theorem dX12_takes_17 : decode cX12_takes 17 = .ok (.aload_n 0, 1) := by decide +kernel
theorem dX12_takes_18 : decode cX12_takes 18 = .ok (.getfield 198, 3) := by decide +kernel
theorem dX12_takes_21 : decode cX12_takes 21 = .ok (.aload_n 0, 1) := by decide +kernel
theorem dX12_takes_22 : decode cX12_takes 22 = .ok (.getfield 210, 3) := by decide +kernel
theorem dX12_takes_25 : decode cX12_takes 25 = .ok (.if_icmp .ne 5, 3) := by decide +kernel
theorem dX12_takes_28 : decode cX12_takes 28 = .ok (.iconst 0, 1) := by decide +kernel
theorem dX12_takes_29 : decode cX12_takes 29 = .ok (.ireturn, 1) := by decide +kernel
theorem dX12_takes_30 : decode cX12_takes 30 = .ok (.aload_n 0, 1) := by decide +kernel
theorem dX12_takes_31 : decode cX12_takes 31 = .ok (.getfield 198, 3) := by decide +kernel
theorem dX12_takes_34 : decode cX12_takes 34 = .ok (.istore_n 2, 1) := by decide +kernel
theorem dX12_takes_35 : decode cX12_takes 35 = .ok (.iload_n 2, 1) := by decide +kernel
theorem dX12_takes_36 : decode cX12_takes 36 = .ok (.aload_n 0, 1) := by decide +kernel
theorem dX12_takes_37 : decode cX12_takes 37 = .ok (.getfield 201, 3) := by decide +kernel
theorem dX12_takes_40 : decode cX12_takes 40 = .ok (.if_icmp .ge 21, 3) := by decide +kernel
theorem dX12_takes_43 : decode cX12_takes 43 = .ok (.aload_n 0, 1) := by decide +kernel
theorem dX12_takes_44 : decode cX12_takes 44 = .ok (.getfield 189, 3) := by decide +kernel
theorem dX12_takes_47 : decode cX12_takes 47 = .ok (.iload_n 2, 1) := by decide +kernel
theorem dX12_takes_48 : decode cX12_takes 48 = .ok (.iaload, 1) := by decide +kernel
theorem dX12_takes_49 : decode cX12_takes 49 = .ok (.invokestatic 207, 3) := by decide +kernel
theorem dX12_takes_52 : decode cX12_takes 52 = .ok (.ifCond .eq 9, 3) := by decide +kernel
theorem dX12_takes_55 : decode cX12_takes 55 = .ok (.iinc 2 1, 3) := by decide +kernel
theorem dX12_takes_58 : decode cX12_takes 58 = .ok (.goto (-23), 3) := by decide +kernel
theorem dX12_takes_61 : decode cX12_takes 61 = .ok (.iload_n 2, 1) := by decide +kernel
theorem dX12_takes_62 : decode cX12_takes 62 = .ok (.aload_n 0, 1) := by decide +kernel
theorem dX12_takes_63 : decode cX12_takes 63 = .ok (.getfield 198, 3) := by decide +kernel
theorem dX12_takes_66 : decode cX12_takes 66 = .ok (.isub, 1) := by decide +kernel
theorem dX12_takes_67 : decode cX12_takes 67 = .ok (.aload_n 1, 1) := by decide +kernel
theorem dX12_takes_68 : decode cX12_takes 68 = .ok (.arraylength, 1) := by decide +kernel
theorem dX12_takes_69 : decode cX12_takes 69 = .ok (.if_icmp .eq 5, 3) := by decide +kernel
theorem dX12_takes_72 : decode cX12_takes 72 = .ok (.iconst 0, 1) := by decide +kernel
theorem dX12_takes_73 : decode cX12_takes 73 = .ok (.ireturn, 1) := by decide +kernel
theorem dX12_takes_74 : decode cX12_takes 74 = .ok (.iconst 0, 1) := by decide +kernel
theorem dX12_takes_75 : decode cX12_takes 75 = .ok (.istore_n 3, 1) := by decide +kernel
theorem dX12_takes_76 : decode cX12_takes 76 = .ok (.iload_n 3, 1) := by decide +kernel
theorem dX12_takes_77 : decode cX12_takes 77 = .ok (.aload_n 1, 1) := by decide +kernel
theorem dX12_takes_78 : decode cX12_takes 78 = .ok (.arraylength, 1) := by decide +kernel
theorem dX12_takes_79 : decode cX12_takes 79 = .ok (.if_icmp .ge 28, 3) := by decide +kernel
theorem dX12_takes_82 : decode cX12_takes 82 = .ok (.aload_n 0, 1) := by decide +kernel
theorem dX12_takes_83 : decode cX12_takes 83 = .ok (.getfield 189, 3) := by decide +kernel
theorem dX12_takes_86 : decode cX12_takes 86 = .ok (.aload_n 0, 1) := by decide +kernel
theorem dX12_takes_87 : decode cX12_takes 87 = .ok (.getfield 198, 3) := by decide +kernel
theorem dX12_takes_90 : decode cX12_takes 90 = .ok (.iload_n 3, 1) := by decide +kernel
theorem dX12_takes_91 : decode cX12_takes 91 = .ok (.iadd, 1) := by decide +kernel
theorem dX12_takes_92 : decode cX12_takes 92 = .ok (.iaload, 1) := by decide +kernel
theorem dX12_takes_93 : decode cX12_takes 93 = .ok (.aload_n 1, 1) := by decide +kernel
theorem dX12_takes_94 : decode cX12_takes 94 = .ok (.iload_n 3, 1) := by decide +kernel
theorem dX12_takes_95 : decode cX12_takes 95 = .ok (.caload, 1) := by decide +kernel
theorem dX12_takes_96 : decode cX12_takes 96 = .ok (.if_icmp .eq 5, 3) := by decide +kernel
theorem dX12_takes_99 : decode cX12_takes 99 = .ok (.iconst 0, 1) := by decide +kernel
theorem dX12_takes_100 : decode cX12_takes 100 = .ok (.ireturn, 1) := by decide +kernel
theorem dX12_takes_101 : decode cX12_takes 101 = .ok (.iinc 3 1, 3) := by decide +kernel
theorem dX12_takes_104 : decode cX12_takes 104 = .ok (.goto (-28), 3) := by decide +kernel
theorem dX12_takes_107 : decode cX12_takes 107 = .ok (.aload_n 0, 1) := by decide +kernel
theorem dX12_takes_108 : decode cX12_takes 108 = .ok (.iload_n 2, 1) := by decide +kernel
theorem dX12_takes_109 : decode cX12_takes 109 = .ok (.putfield 198, 3) := by decide +kernel
theorem dX12_takes_112 : decode cX12_takes 112 = .ok (.aload_n 0, 1) := by decide +kernel
theorem dX12_takes_113 : decode cX12_takes 113 = .ok (.iload_n 2, 1) := by decide +kernel
theorem dX12_takes_114 : decode cX12_takes 114 = .ok (.putfield 210, 3) := by decide +kernel
theorem dX12_takes_117 : decode cX12_takes 117 = .ok (.iconst 1, 1) := by decide +kernel
theorem dX12_takes_118 : decode cX12_takes 118 = .ok (.ireturn, 1) := by decide +kernel
theorem dX12_asks_0 : decode cX12_asks 0 = .ok (.aload_n 0, 1) := by decide +kernel
theorem dX12_asks_1 : decode cX12_asks 1 = .ok (.aload_n 1, 1) := by decide +kernel
theorem dX12_asks_2 : decode cX12_asks 2 = .ok (.invokevirtual 213, 3) := by decide +kernel
theorem dX12_asks_5 : decode cX12_asks 5 = .ok (.ifCond .ne 12, 3) := by decide +kernel
theorem dX12_asks_8 : decode cX12_asks 8 = .ok (.aload_n 0, 1) := by decide +kernel
theorem dX12_asks_9 : decode cX12_asks 9 = .ok (.iconst 1, 1) := by decide +kernel
theorem dX12_asks_10 : decode cX12_asks 10 = .ok (.aload_n 0, 1) := by decide +kernel
theorem dX12_asks_11 : decode cX12_asks 11 = .ok (.getfield 198, 3) := by decide +kernel
theorem dX12_asks_14 : decode cX12_asks 14 = .ok (.invokevirtual 217, 3) := by decide +kernel
theorem dX12_asks_17 : decode cX12_asks 17 = .ok (.return_, 1) := by decide +kernel
theorem dX12_asksSign_0 : decode cX12_asksSign 0 = .ok (.aload_n 0, 1) := by decide +kernel
theorem dX12_asksSign_1 : decode cX12_asksSign 1 = .ok (.getfield 192, 3) := by decide +kernel
theorem dX12_asksSign_4 : decode cX12_asksSign 4 = .ok (.ifCond .eq 4, 3) := by decide +kernel
theorem dX12_asksSign_7 : decode cX12_asksSign 7 = .ok (.return_, 1) := by decide +kernel
theorem dX12_asksSign_8 : decode cX12_asksSign 8 = .ok (.aload_n 0, 1) := by decide +kernel
theorem dX12_asksSign_9 : decode cX12_asksSign 9 = .ok (.invokevirtual 204, 3) := by decide +kernel
theorem dX12_asksSign_12 : decode cX12_asksSign 12 = .ok (.iload_n 1, 1) := by decide +kernel
theorem dX12_asksSign_13 : decode cX12_asksSign 13 = .ok (.if_icmp .ne 16, 3) := by decide +kernel
theorem dX12_asksSign_16 : decode cX12_asksSign 16 = .ok (.aload_n 0, 1) := by decide +kernel
theorem dX12_asksSign_17 : decode cX12_asksSign 17 = .ok (.dup, 1) := by decide +kernel
theorem dX12_asksSign_18 : decode cX12_asksSign 18 = .ok (.getfield 198, 3) := by decide +kernel
theorem dX12_asksSign_21 : decode cX12_asksSign 21 = .ok (.iconst 1, 1) := by decide +kernel
theorem dX12_asksSign_22 : decode cX12_asksSign 22 = .ok (.iadd, 1) := by decide +kernel
theorem dX12_asksSign_23 : decode cX12_asksSign 23 = .ok (.putfield 198, 3) := by decide +kernel
theorem dX12_asksSign_26 : decode cX12_asksSign 26 = .ok (.goto 12, 3) := by decide +kernel
theorem dX12_asksSign_29 : decode cX12_asksSign 29 = .ok (.aload_n 0, 1) := by decide +kernel
theorem dX12_asksSign_30 : decode cX12_asksSign 30 = .ok (.iconst 1, 1) := by decide +kernel
theorem dX12_asksSign_31 : decode cX12_asksSign 31 = .ok (.aload_n 0, 1) := by decide +kernel
theorem dX12_asksSign_32 : decode cX12_asksSign 32 = .ok (.getfield 198, 3) := by decide +kernel
theorem dX12_asksSign_35 : decode cX12_asksSign 35 = .ok (.invokevirtual 217, 3) := by decide +kernel
theorem dX12_asksSign_38 : decode cX12_asksSign 38 = .ok (.return_, 1) := by decide +kernel
theorem dX12_number_0 : decode cX12_number 0 = .ok (.aload_n 0, 1) := by decide +kernel
theorem dX12_number_1 : decode cX12_number 1 = .ok (.getfield 192, 3) := by decide +kernel
theorem dX12_number_4 : decode cX12_number 4 = .ok (.ifCond .eq 5, 3) := by decide +kernel
theorem dX12_number_7 : decode cX12_number 7 = .ok (.iconst 0, 1) := by decide +kernel
theorem dX12_number_8 : decode cX12_number 8 = .ok (.ireturn, 1) := by decide +kernel
theorem dX12_number_9 : decode cX12_number 9 = .ok (.aload_n 0, 1) := by decide +kernel
theorem dX12_number_10 : decode cX12_number 10 = .ok (.invokevirtual 204, 3) := by decide +kernel
theorem dX12_number_13 : decode cX12_number 13 = .ok (.invokestatic 221, 3) := by decide +kernel
theorem dX12_number_16 : decode cX12_number 16 = .ok (.ifCond .eq 14, 3) := by decide +kernel
theorem dX12_number_19 : decode cX12_number 19 = .ok (.aload_n 0, 1) := by decide +kernel
theorem dX12_number_20 : decode cX12_number 20 = .ok (.getfield 198, 3) := by decide +kernel
theorem dX12_number_23 : decode cX12_number 23 = .ok (.aload_n 0, 1) := by decide +kernel
theorem dX12_number_24 : decode cX12_number 24 = .ok (.getfield 210, 3) := by decide +kernel
theorem dX12_number_27 : decode cX12_number 27 = .ok (.if_icmp .ne 14, 3) := by decide +kernel
theorem dX12_number_30 : decode cX12_number 30 = .ok (.aload_n 0, 1) := by decide +kernel
theorem dX12_number_31 : decode cX12_number 31 = .ok (.iconst 1, 1) := by decide +kernel
theorem dX12_number_32 : decode cX12_number 32 = .ok (.aload_n 0, 1) := by decide +kernel
theorem dX12_number_33 : decode cX12_number 33 = .ok (.getfield 198, 3) := by decide +kernel
theorem dX12_number_36 : decode cX12_number 36 = .ok (.invokevirtual 217, 3) := by decide +kernel
theorem dX12_number_39 : decode cX12_number 39 = .ok (.iconst 0, 1) := by decide +kernel
theorem dX12_number_40 : decode cX12_number 40 = .ok (.ireturn, 1) := by decide +kernel
theorem dX12_number_41 : decode cX12_number 41 = .ok (.aload_n 0, 1) := by decide +kernel
theorem dX12_number_42 : decode cX12_number 42 = .ok (.getfield 198, 3) := by decide +kernel
theorem dX12_number_45 : decode cX12_number 45 = .ok (.istore_n 3, 1) := by decide +kernel
theorem dX12_number_46 : decode cX12_number 46 = .ok (.iconst 0, 1) := by decide +kernel
theorem dX12_number_47 : decode cX12_number 47 = .ok (.istore 4, 2) := by decide +kernel
theorem dX12_number_49 : decode cX12_number 49 = .ok (.aload_n 0, 1) := by decide +kernel
theorem dX12_number_50 : decode cX12_number 50 = .ok (.getfield 198, 3) := by decide +kernel
theorem dX12_number_53 : decode cX12_number 53 = .ok (.aload_n 0, 1) := by decide +kernel
theorem dX12_number_54 : decode cX12_number 54 = .ok (.getfield 201, 3) := by decide +kernel
theorem dX12_number_57 : decode cX12_number 57 = .ok (.if_icmp .ge 72, 3) := by decide +kernel
theorem dX12_number_60 : decode cX12_number 60 = .ok (.aload_n 0, 1) := by decide +kernel
theorem dX12_number_61 : decode cX12_number 61 = .ok (.getfield 189, 3) := by decide +kernel
theorem dX12_number_64 : decode cX12_number 64 = .ok (.aload_n 0, 1) := by decide +kernel
theorem dX12_number_65 : decode cX12_number 65 = .ok (.getfield 198, 3) := by decide +kernel
theorem dX12_number_68 : decode cX12_number 68 = .ok (.iaload, 1) := by decide +kernel
theorem dX12_number_69 : decode cX12_number 69 = .ok (.invokestatic 221, 3) := by decide +kernel
theorem dX12_number_72 : decode cX12_number 72 = .ok (.ifCond .eq 57, 3) := by decide +kernel
theorem dX12_number_75 : decode cX12_number 75 = .ok (.aload_n 0, 1) := by decide +kernel
theorem dX12_number_76 : decode cX12_number 76 = .ok (.getfield 198, 3) := by decide +kernel
theorem dX12_number_79 : decode cX12_number 79 = .ok (.iload_n 3, 1) := by decide +kernel
theorem dX12_number_80 : decode cX12_number 80 = .ok (.isub, 1) := by decide +kernel
theorem dX12_number_81 : decode cX12_number 81 = .ok (.iconst 4, 1) := by decide +kernel
theorem dX12_number_82 : decode cX12_number 82 = .ok (.if_icmp .ne 14, 3) := by decide +kernel
theorem dX12_number_85 : decode cX12_number 85 = .ok (.aload_n 0, 1) := by decide +kernel
theorem dX12_number_86 : decode cX12_number 86 = .ok (.iconst 1, 1) := by decide +kernel
theorem dX12_number_87 : decode cX12_number 87 = .ok (.aload_n 0, 1) := by decide +kernel
theorem dX12_number_88 : decode cX12_number 88 = .ok (.getfield 198, 3) := by decide +kernel
theorem dX12_number_91 : decode cX12_number 91 = .ok (.invokevirtual 217, 3) := by decide +kernel
theorem dX12_number_94 : decode cX12_number 94 = .ok (.iconst 0, 1) := by decide +kernel
theorem dX12_number_95 : decode cX12_number 95 = .ok (.ireturn, 1) := by decide +kernel
theorem dX12_number_96 : decode cX12_number 96 = .ok (.bipush 10, 2) := by decide +kernel
theorem dX12_number_98 : decode cX12_number 98 = .ok (.iload 4, 2) := by decide +kernel
theorem dX12_number_100 : decode cX12_number 100 = .ok (.imul, 1) := by decide +kernel
theorem dX12_number_101 : decode cX12_number 101 = .ok (.aload_n 0, 1) := by decide +kernel
theorem dX12_number_102 : decode cX12_number 102 = .ok (.getfield 189, 3) := by decide +kernel
theorem dX12_number_105 : decode cX12_number 105 = .ok (.aload_n 0, 1) := by decide +kernel
theorem dX12_number_106 : decode cX12_number 106 = .ok (.getfield 198, 3) := by decide +kernel
theorem dX12_number_109 : decode cX12_number 109 = .ok (.iaload, 1) := by decide +kernel
theorem dX12_number_110 : decode cX12_number 110 = .ok (.iadd, 1) := by decide +kernel
theorem dX12_number_111 : decode cX12_number 111 = .ok (.bipush 48, 2) := by decide +kernel
theorem dX12_number_113 : decode cX12_number 113 = .ok (.isub, 1) := by decide +kernel
theorem dX12_number_114 : decode cX12_number 114 = .ok (.istore 4, 2) := by decide +kernel
theorem dX12_number_116 : decode cX12_number 116 = .ok (.aload_n 0, 1) := by decide +kernel
theorem dX12_number_117 : decode cX12_number 117 = .ok (.dup, 1) := by decide +kernel
theorem dX12_number_118 : decode cX12_number 118 = .ok (.getfield 198, 3) := by decide +kernel
theorem dX12_number_121 : decode cX12_number 121 = .ok (.iconst 1, 1) := by decide +kernel
theorem dX12_number_122 : decode cX12_number 122 = .ok (.iadd, 1) := by decide +kernel
theorem dX12_number_123 : decode cX12_number 123 = .ok (.putfield 198, 3) := by decide +kernel
theorem dX12_number_126 : decode cX12_number 126 = .ok (.goto (-77), 3) := by decide +kernel
theorem dX12_number_129 : decode cX12_number 129 = .ok (.aload_n 0, 1) := by decide +kernel
theorem dX12_number_130 : decode cX12_number 130 = .ok (.aload_n 0, 1) := by decide +kernel
theorem dX12_number_131 : decode cX12_number 131 = .ok (.getfield 198, 3) := by decide +kernel
theorem dX12_number_134 : decode cX12_number 134 = .ok (.putfield 210, 3) := by decide +kernel
theorem dX12_number_137 : decode cX12_number 137 = .ok (.iload 4, 2) := by decide +kernel
theorem dX12_number_139 : decode cX12_number 139 = .ok (.iload_n 1, 1) := by decide +kernel
theorem dX12_number_140 : decode cX12_number 140 = .ok (.iload_n 2, 1) := by decide +kernel
theorem dX12_number_141 : decode cX12_number 141 = .ok (.invokestatic 3, 3) := by decide +kernel
theorem dX12_number_144 : decode cX12_number 144 = .ok (.ifCond .ne 9, 3) := by decide +kernel
theorem dX12_number_147 : decode cX12_number 147 = .ok (.aload_n 0, 1) := by decide +kernel
theorem dX12_number_148 : decode cX12_number 148 = .ok (.iconst 2, 1) := by decide +kernel
theorem dX12_number_149 : decode cX12_number 149 = .ok (.iload_n 3, 1) := by decide +kernel
theorem dX12_number_150 : decode cX12_number 150 = .ok (.invokevirtual 217, 3) := by decide +kernel
theorem dX12_number_153 : decode cX12_number 153 = .ok (.iload 4, 2) := by decide +kernel
theorem dX12_number_155 : decode cX12_number 155 = .ok (.ireturn, 1) := by decide +kernel
theorem dX12_name_0 : decode cX12_name 0 = .ok (.aload_n 0, 1) := by decide +kernel
theorem dX12_name_1 : decode cX12_name 1 = .ok (.getfield 192, 3) := by decide +kernel
theorem dX12_name_4 : decode cX12_name 4 = .ok (.ifCond .eq 5, 3) := by decide +kernel
theorem dX12_name_7 : decode cX12_name 7 = .ok (.lconst 0, 1) := by decide +kernel
theorem dX12_name_8 : decode cX12_name 8 = .ok (.lreturn, 1) := by decide +kernel
theorem dX12_name_9 : decode cX12_name 9 = .ok (.aload_n 0, 1) := by decide +kernel
theorem dX12_name_10 : decode cX12_name 10 = .ok (.invokevirtual 204, 3) := by decide +kernel
theorem dX12_name_13 : decode cX12_name 13 = .ok (.invokestatic 207, 3) := by decide +kernel
theorem dX12_name_16 : decode cX12_name 16 = .ok (.ifCond .eq 14, 3) := by decide +kernel
theorem dX12_name_19 : decode cX12_name 19 = .ok (.aload_n 0, 1) := by decide +kernel
theorem dX12_name_20 : decode cX12_name 20 = .ok (.getfield 198, 3) := by decide +kernel
theorem dX12_name_23 : decode cX12_name 23 = .ok (.aload_n 0, 1) := by decide +kernel
theorem dX12_name_24 : decode cX12_name 24 = .ok (.getfield 210, 3) := by decide +kernel
theorem dX12_name_27 : decode cX12_name 27 = .ok (.if_icmp .ne 14, 3) := by decide +kernel
theorem dX12_name_30 : decode cX12_name 30 = .ok (.aload_n 0, 1) := by decide +kernel
theorem dX12_name_31 : decode cX12_name 31 = .ok (.iconst 1, 1) := by decide +kernel
theorem dX12_name_32 : decode cX12_name 32 = .ok (.aload_n 0, 1) := by decide +kernel
theorem dX12_name_33 : decode cX12_name 33 = .ok (.getfield 198, 3) := by decide +kernel
theorem dX12_name_36 : decode cX12_name 36 = .ok (.invokevirtual 217, 3) := by decide +kernel
theorem dX12_name_39 : decode cX12_name 39 = .ok (.lconst 0, 1) := by decide +kernel
theorem dX12_name_40 : decode cX12_name 40 = .ok (.lreturn, 1) := by decide +kernel
theorem dX12_name_41 : decode cX12_name 41 = .ok (.aload_n 0, 1) := by decide +kernel
theorem dX12_name_42 : decode cX12_name 42 = .ok (.aload_n 0, 1) := by decide +kernel
theorem dX12_name_43 : decode cX12_name 43 = .ok (.getfield 198, 3) := by decide +kernel
theorem dX12_name_46 : decode cX12_name 46 = .ok (.putfield 224, 3) := by decide +kernel
theorem dX12_name_49 : decode cX12_name 49 = .ok (.lconst 0, 1) := by decide +kernel
theorem dX12_name_50 : decode cX12_name 50 = .ok (.lstore_n 1, 1) := by decide +kernel
theorem dX12_name_51 : decode cX12_name 51 = .ok (.aload_n 0, 1) := by decide +kernel
theorem dX12_name_52 : decode cX12_name 52 = .ok (.getfield 198, 3) := by decide +kernel
theorem dX12_name_55 : decode cX12_name 55 = .ok (.aload_n 0, 1) := by decide +kernel
theorem dX12_name_56 : decode cX12_name 56 = .ok (.getfield 201, 3) := by decide +kernel
theorem dX12_name_59 : decode cX12_name 59 = .ok (.if_icmp .ge 79, 3) := by decide +kernel
theorem dX12_name_62 : decode cX12_name 62 = .ok (.aload_n 0, 1) := by decide +kernel
theorem dX12_name_63 : decode cX12_name 63 = .ok (.getfield 189, 3) := by decide +kernel
theorem dX12_name_66 : decode cX12_name 66 = .ok (.aload_n 0, 1) := by decide +kernel
theorem dX12_name_67 : decode cX12_name 67 = .ok (.getfield 198, 3) := by decide +kernel
theorem dX12_name_70 : decode cX12_name 70 = .ok (.iaload, 1) := by decide +kernel
theorem dX12_name_71 : decode cX12_name 71 = .ok (.invokestatic 207, 3) := by decide +kernel
theorem dX12_name_74 : decode cX12_name 74 = .ok (.ifCond .eq 64, 3) := by decide +kernel
theorem dX12_name_77 : decode cX12_name 77 = .ok (.aload_n 0, 1) := by decide +kernel
theorem dX12_name_78 : decode cX12_name 78 = .ok (.getfield 198, 3) := by decide +kernel
theorem dX12_name_81 : decode cX12_name 81 = .ok (.aload_n 0, 1) := by decide +kernel
theorem dX12_name_82 : decode cX12_name 82 = .ok (.getfield 224, 3) := by decide +kernel
theorem dX12_name_85 : decode cX12_name 85 = .ok (.isub, 1) := by decide +kernel
theorem dX12_name_86 : decode cX12_name 86 = .ok (.bipush 6, 2) := by decide +kernel
theorem dX12_name_88 : decode cX12_name 88 = .ok (.if_icmp .ne 14, 3) := by decide +kernel
theorem dX12_name_91 : decode cX12_name 91 = .ok (.aload_n 0, 1) := by decide +kernel
theorem dX12_name_92 : decode cX12_name 92 = .ok (.iconst 1, 1) := by decide +kernel
theorem dX12_name_93 : decode cX12_name 93 = .ok (.aload_n 0, 1) := by decide +kernel
theorem dX12_name_94 : decode cX12_name 94 = .ok (.getfield 198, 3) := by decide +kernel
theorem dX12_name_97 : decode cX12_name 97 = .ok (.invokevirtual 217, 3) := by decide +kernel
theorem dX12_name_100 : decode cX12_name 100 = .ok (.lconst 0, 1) := by decide +kernel
theorem dX12_name_101 : decode cX12_name 101 = .ok (.lreturn, 1) := by decide +kernel
theorem dX12_name_102 : decode cX12_name 102 = .ok (.ldc2_w 227, 3) := by decide +kernel
theorem dX12_name_105 : decode cX12_name 105 = .ok (.lload_n 1, 1) := by decide +kernel
theorem dX12_name_106 : decode cX12_name 106 = .ok (.lmul, 1) := by decide +kernel
theorem dX12_name_107 : decode cX12_name 107 = .ok (.aload_n 0, 1) := by decide +kernel
theorem dX12_name_108 : decode cX12_name 108 = .ok (.getfield 189, 3) := by decide +kernel
theorem dX12_name_111 : decode cX12_name 111 = .ok (.aload_n 0, 1) := by decide +kernel
theorem dX12_name_112 : decode cX12_name 112 = .ok (.getfield 198, 3) := by decide +kernel
theorem dX12_name_115 : decode cX12_name 115 = .ok (.iaload, 1) := by decide +kernel
theorem dX12_name_116 : decode cX12_name 116 = .ok (.i2l, 1) := by decide +kernel
theorem dX12_name_117 : decode cX12_name 117 = .ok (.ladd, 1) := by decide +kernel
theorem dX12_name_118 : decode cX12_name 118 = .ok (.ldc2_w 229, 3) := by decide +kernel
theorem dX12_name_121 : decode cX12_name 121 = .ok (.lsub, 1) := by decide +kernel
theorem dX12_name_122 : decode cX12_name 122 = .ok (.lconst 1, 1) := by decide +kernel
theorem dX12_name_123 : decode cX12_name 123 = .ok (.ladd, 1) := by decide +kernel
theorem dX12_name_124 : decode cX12_name 124 = .ok (.lstore_n 1, 1) := by decide +kernel
theorem dX12_name_125 : decode cX12_name 125 = .ok (.aload_n 0, 1) := by decide +kernel
theorem dX12_name_126 : decode cX12_name 126 = .ok (.dup, 1) := by decide +kernel
theorem dX12_name_127 : decode cX12_name 127 = .ok (.getfield 198, 3) := by decide +kernel
theorem dX12_name_130 : decode cX12_name 130 = .ok (.iconst 1, 1) := by decide +kernel
theorem dX12_name_131 : decode cX12_name 131 = .ok (.iadd, 1) := by decide +kernel
theorem dX12_name_132 : decode cX12_name 132 = .ok (.putfield 198, 3) := by decide +kernel
theorem dX12_name_135 : decode cX12_name 135 = .ok (.goto (-84), 3) := by decide +kernel
theorem dX12_name_138 : decode cX12_name 138 = .ok (.aload_n 0, 1) := by decide +kernel
theorem dX12_name_139 : decode cX12_name 139 = .ok (.aload_n 0, 1) := by decide +kernel
theorem dX12_name_140 : decode cX12_name 140 = .ok (.getfield 198, 3) := by decide +kernel
theorem dX12_name_143 : decode cX12_name 143 = .ok (.putfield 210, 3) := by decide +kernel
theorem dX12_name_146 : decode cX12_name 146 = .ok (.lload_n 1, 1) := by decide +kernel
theorem dX12_name_147 : decode cX12_name 147 = .ok (.lreturn, 1) := by decide +kernel
theorem dX12_codeOf_0 : decode cX12_codeOf 0 = .ok (.aload_n 0, 1) := by decide +kernel
theorem dX12_codeOf_1 : decode cX12_codeOf 1 = .ok (.getfield 231, 3) := by decide +kernel
theorem dX12_codeOf_4 : decode cX12_codeOf 4 = .ok (.aload_n 0, 1) := by decide +kernel
theorem dX12_codeOf_5 : decode cX12_codeOf 5 = .ok (.getfield 234, 3) := by decide +kernel
theorem dX12_codeOf_8 : decode cX12_codeOf 8 = .ok (.iload_n 1, 1) := by decide +kernel
theorem dX12_codeOf_9 : decode cX12_codeOf 9 = .ok (.iastore, 1) := by decide +kernel
theorem dX12_codeOf_10 : decode cX12_codeOf 10 = .ok (.aload_n 0, 1) := by decide +kernel
theorem dX12_codeOf_11 : decode cX12_codeOf 11 = .ok (.getfield 237, 3) := by decide +kernel
theorem dX12_codeOf_14 : decode cX12_codeOf 14 = .ok (.aload_n 0, 1) := by decide +kernel
theorem dX12_codeOf_15 : decode cX12_codeOf 15 = .ok (.getfield 234, 3) := by decide +kernel
theorem dX12_codeOf_18 : decode cX12_codeOf 18 = .ok (.iload_n 2, 1) := by decide +kernel
theorem dX12_codeOf_19 : decode cX12_codeOf 19 = .ok (.iastore, 1) := by decide +kernel
theorem dX12_codeOf_20 : decode cX12_codeOf 20 = .ok (.aload_n 0, 1) := by decide +kernel
theorem dX12_codeOf_21 : decode cX12_codeOf 21 = .ok (.getfield 240, 3) := by decide +kernel
theorem dX12_codeOf_24 : decode cX12_codeOf 24 = .ok (.aload_n 0, 1) := by decide +kernel
theorem dX12_codeOf_25 : decode cX12_codeOf 25 = .ok (.getfield 234, 3) := by decide +kernel
theorem dX12_codeOf_28 : decode cX12_codeOf 28 = .ok (.iload_n 3, 1) := by decide +kernel
theorem dX12_codeOf_29 : decode cX12_codeOf 29 = .ok (.iastore, 1) := by decide +kernel
theorem dX12_codeOf_30 : decode cX12_codeOf 30 = .ok (.aload_n 0, 1) := by decide +kernel
theorem dX12_codeOf_31 : decode cX12_codeOf 31 = .ok (.dup, 1) := by decide +kernel
theorem dX12_codeOf_32 : decode cX12_codeOf 32 = .ok (.getfield 234, 3) := by decide +kernel
theorem dX12_codeOf_35 : decode cX12_codeOf 35 = .ok (.iconst 1, 1) := by decide +kernel
theorem dX12_codeOf_36 : decode cX12_codeOf 36 = .ok (.iadd, 1) := by decide +kernel
theorem dX12_codeOf_37 : decode cX12_codeOf 37 = .ok (.putfield 234, 3) := by decide +kernel
theorem dX12_codeOf_40 : decode cX12_codeOf 40 = .ok (.aload_n 0, 1) := by decide +kernel
theorem dX12_codeOf_41 : decode cX12_codeOf 41 = .ok (.getfield 234, 3) := by decide +kernel
theorem dX12_codeOf_44 : decode cX12_codeOf 44 = .ok (.iconst 1, 1) := by decide +kernel
theorem dX12_codeOf_45 : decode cX12_codeOf 45 = .ok (.isub, 1) := by decide +kernel
theorem dX12_codeOf_46 : decode cX12_codeOf 46 = .ok (.ireturn, 1) := by decide +kernel
theorem dX12_adds_0 : decode cX12_adds 0 = .ok (.aload_n 0, 1) := by decide +kernel
theorem dX12_adds_1 : decode cX12_adds 1 = .ok (.getfield 243, 3) := by decide +kernel
theorem dX12_adds_4 : decode cX12_adds 4 = .ok (.aload_n 0, 1) := by decide +kernel
theorem dX12_adds_5 : decode cX12_adds 5 = .ok (.getfield 246, 3) := by decide +kernel
theorem dX12_adds_8 : decode cX12_adds 8 = .ok (.aload_n 0, 1) := by decide +kernel
theorem dX12_adds_9 : decode cX12_adds 9 = .ok (.getfield 243, 3) := by decide +kernel
theorem dX12_adds_12 : decode cX12_adds 12 = .ok (.aload_n 0, 1) := by decide +kernel
theorem dX12_adds_13 : decode cX12_adds 13 = .ok (.getfield 246, 3) := by decide +kernel
theorem dX12_adds_16 : decode cX12_adds 16 = .ok (.iaload, 1) := by decide +kernel
theorem dX12_adds_17 : decode cX12_adds 17 = .ok (.iload_n 1, 1) := by decide +kernel
theorem dX12_adds_18 : decode cX12_adds 18 = .ok (.iadd, 1) := by decide +kernel
theorem dX12_adds_19 : decode cX12_adds 19 = .ok (.ldc 249, 2) := by decide +kernel
theorem dX12_adds_21 : decode cX12_adds 21 = .ok (.if_icmp .le 8, 3) := by decide +kernel
theorem dX12_adds_24 : decode cX12_adds 24 = .ok (.ldc 249, 2) := by decide +kernel
theorem dX12_adds_26 : decode cX12_adds 26 = .ok (.goto 14, 3) := by decide +kernel
theorem dX12_adds_29 : decode cX12_adds 29 = .ok (.aload_n 0, 1) := by decide +kernel
theorem dX12_adds_30 : decode cX12_adds 30 = .ok (.getfield 243, 3) := by decide +kernel
theorem dX12_adds_33 : decode cX12_adds 33 = .ok (.aload_n 0, 1) := by decide +kernel
theorem dX12_adds_34 : decode cX12_adds 34 = .ok (.getfield 246, 3) := by decide +kernel
theorem dX12_adds_37 : decode cX12_adds 37 = .ok (.iaload, 1) := by decide +kernel
theorem dX12_adds_38 : decode cX12_adds 38 = .ok (.iload_n 1, 1) := by decide +kernel
theorem dX12_adds_39 : decode cX12_adds 39 = .ok (.iadd, 1) := by decide +kernel
theorem dX12_adds_40 : decode cX12_adds 40 = .ok (.iastore, 1) := by decide +kernel
theorem dX12_adds_41 : decode cX12_adds 41 = .ok (.return_, 1) := by decide +kernel
theorem dX12_opens_0 : decode cX12_opens 0 = .ok (.aload_n 0, 1) := by decide +kernel
theorem dX12_opens_1 : decode cX12_opens 1 = .ok (.getfield 192, 3) := by decide +kernel
theorem dX12_opens_4 : decode cX12_opens 4 = .ok (.ifCond .eq 4, 3) := by decide +kernel
theorem dX12_opens_7 : decode cX12_opens 7 = .ok (.return_, 1) := by decide +kernel
theorem dX12_opens_8 : decode cX12_opens 8 = .ok (.aload_n 0, 1) := by decide +kernel
theorem dX12_opens_9 : decode cX12_opens 9 = .ok (.invokevirtual 204, 3) := by decide +kernel
theorem dX12_opens_12 : decode cX12_opens 12 = .ok (.bipush 91, 2) := by decide +kernel
theorem dX12_opens_14 : decode cX12_opens 14 = .ok (.if_icmp .ne 21, 3) := by decide +kernel
theorem dX12_opens_17 : decode cX12_opens 17 = .ok (.aload_n 0, 1) := by decide +kernel
theorem dX12_opens_18 : decode cX12_opens 18 = .ok (.getfield 246, 3) := by decide +kernel
theorem dX12_opens_21 : decode cX12_opens 21 = .ok (.bipush 6, 2) := by decide +kernel
theorem dX12_opens_23 : decode cX12_opens 23 = .ok (.if_icmp .ne 12, 3) := by decide +kernel
theorem dX12_opens_26 : decode cX12_opens 26 = .ok (.aload_n 0, 1) := by decide +kernel
theorem dX12_opens_27 : decode cX12_opens 27 = .ok (.iconst 4, 1) := by decide +kernel
theorem dX12_opens_28 : decode cX12_opens 28 = .ok (.aload_n 0, 1) := by decide +kernel
theorem dX12_opens_29 : decode cX12_opens 29 = .ok (.getfield 198, 3) := by decide +kernel
theorem dX12_opens_32 : decode cX12_opens 32 = .ok (.invokevirtual 217, 3) := by decide +kernel
theorem dX12_opens_35 : decode cX12_opens 35 = .ok (.aload_n 0, 1) := by decide +kernel
theorem dX12_opens_36 : decode cX12_opens 36 = .ok (.bipush 91, 2) := by decide +kernel
theorem dX12_opens_38 : decode cX12_opens 38 = .ok (.invokevirtual 250, 3) := by decide +kernel
theorem dX12_opens_41 : decode cX12_opens 41 = .ok (.aload_n 0, 1) := by decide +kernel
theorem dX12_opens_42 : decode cX12_opens 42 = .ok (.getfield 192, 3) := by decide +kernel
theorem dX12_opens_45 : decode cX12_opens 45 = .ok (.ifCond .eq 4, 3) := by decide +kernel
theorem dX12_opens_48 : decode cX12_opens 48 = .ok (.return_, 1) := by decide +kernel
theorem dX12_opens_49 : decode cX12_opens 49 = .ok (.aload_n 0, 1) := by decide +kernel
theorem dX12_opens_50 : decode cX12_opens 50 = .ok (.iload_n 1, 1) := by decide +kernel
theorem dX12_opens_51 : decode cX12_opens 51 = .ok (.iload_n 2, 1) := by decide +kernel
theorem dX12_opens_52 : decode cX12_opens 52 = .ok (.iconst 0, 1) := by decide +kernel
theorem dX12_opens_53 : decode cX12_opens 53 = .ok (.invokevirtual 254, 3) := by decide +kernel
theorem dX12_opens_56 : decode cX12_opens 56 = .ok (.istore 5, 2) := by decide +kernel
theorem dX12_opens_58 : decode cX12_opens 58 = .ok (.aload_n 0, 1) := by decide +kernel
theorem dX12_opens_59 : decode cX12_opens 59 = .ok (.dup, 1) := by decide +kernel
theorem dX12_opens_60 : decode cX12_opens 60 = .ok (.getfield 246, 3) := by decide +kernel
theorem dX12_opens_63 : decode cX12_opens 63 = .ok (.iconst 1, 1) := by decide +kernel
theorem dX12_opens_64 : decode cX12_opens 64 = .ok (.iadd, 1) := by decide +kernel
theorem dX12_opens_65 : decode cX12_opens 65 = .ok (.putfield 246, 3) := by decide +kernel
theorem dX12_opens_68 : decode cX12_opens 68 = .ok (.aload_n 0, 1) := by decide +kernel
theorem dX12_opens_69 : decode cX12_opens 69 = .ok (.getfield 258, 3) := by decide +kernel
theorem dX12_opens_72 : decode cX12_opens 72 = .ok (.aload_n 0, 1) := by decide +kernel
theorem dX12_opens_73 : decode cX12_opens 73 = .ok (.getfield 246, 3) := by decide +kernel
theorem dX12_opens_76 : decode cX12_opens 76 = .ok (.iload 5, 2) := by decide +kernel
theorem dX12_opens_78 : decode cX12_opens 78 = .ok (.iastore, 1) := by decide +kernel
theorem dX12_opens_79 : decode cX12_opens 79 = .ok (.aload_n 0, 1) := by decide +kernel
theorem dX12_opens_80 : decode cX12_opens 80 = .ok (.getfield 243, 3) := by decide +kernel
theorem dX12_opens_83 : decode cX12_opens 83 = .ok (.aload_n 0, 1) := by decide +kernel
theorem dX12_opens_84 : decode cX12_opens 84 = .ok (.getfield 246, 3) := by decide +kernel
theorem dX12_opens_87 : decode cX12_opens 87 = .ok (.iconst 0, 1) := by decide +kernel
theorem dX12_opens_88 : decode cX12_opens 88 = .ok (.iastore, 1) := by decide +kernel
theorem dX12_opens_89 : decode cX12_opens 89 = .ok (.aload_n 0, 1) := by decide +kernel
theorem dX12_opens_90 : decode cX12_opens 90 = .ok (.getfield 261, 3) := by decide +kernel
theorem dX12_opens_93 : decode cX12_opens 93 = .ok (.aload_n 0, 1) := by decide +kernel
theorem dX12_opens_94 : decode cX12_opens 94 = .ok (.getfield 246, 3) := by decide +kernel
theorem dX12_opens_97 : decode cX12_opens 97 = .ok (.iconst (-1), 1) := by decide +kernel
theorem dX12_opens_98 : decode cX12_opens 98 = .ok (.iastore, 1) := by decide +kernel
theorem dX12_opens_99 : decode cX12_opens 99 = .ok (.aload_n 0, 1) := by decide +kernel
theorem dX12_opens_100 : decode cX12_opens 100 = .ok (.getfield 264, 3) := by decide +kernel
theorem dX12_opens_103 : decode cX12_opens 103 = .ok (.aload_n 0, 1) := by decide +kernel
theorem dX12_opens_104 : decode cX12_opens 104 = .ok (.getfield 246, 3) := by decide +kernel
theorem dX12_opens_107 : decode cX12_opens 107 = .ok (.iconst (-1), 1) := by decide +kernel
theorem dX12_opens_108 : decode cX12_opens 108 = .ok (.iastore, 1) := by decide +kernel
theorem dX12_opens_109 : decode cX12_opens 109 = .ok (.aload_n 0, 1) := by decide +kernel
theorem dX12_opens_110 : decode cX12_opens 110 = .ok (.getfield 267, 3) := by decide +kernel
theorem dX12_opens_113 : decode cX12_opens 113 = .ok (.aload_n 0, 1) := by decide +kernel
theorem dX12_opens_114 : decode cX12_opens 114 = .ok (.getfield 246, 3) := by decide +kernel
theorem dX12_opens_117 : decode cX12_opens 117 = .ok (.lload_n 3, 1) := by decide +kernel
theorem dX12_opens_118 : decode cX12_opens 118 = .ok (.lastore, 1) := by decide +kernel
theorem dX12_opens_119 : decode cX12_opens 119 = .ok (.return_, 1) := by decide +kernel
theorem dX12_figureOf_0 : decode cX12_figureOf 0 = .ok (.iconst 0, 1) := by decide +kernel
theorem dX12_figureOf_1 : decode cX12_figureOf 1 = .ok (.istore_n 3, 1) := by decide +kernel
theorem dX12_figureOf_2 : decode cX12_figureOf 2 = .ok (.iload_n 3, 1) := by decide +kernel
theorem dX12_figureOf_3 : decode cX12_figureOf 3 = .ok (.aload_n 0, 1) := by decide +kernel
theorem dX12_figureOf_4 : decode cX12_figureOf 4 = .ok (.getfield 271, 3) := by decide +kernel
theorem dX12_figureOf_7 : decode cX12_figureOf 7 = .ok (.if_icmp .ge 22, 3) := by decide +kernel
theorem dX12_figureOf_10 : decode cX12_figureOf 10 = .ok (.aload_n 0, 1) := by decide +kernel
theorem dX12_figureOf_11 : decode cX12_figureOf 11 = .ok (.getfield 274, 3) := by decide +kernel
theorem dX12_figureOf_14 : decode cX12_figureOf 14 = .ok (.iload_n 3, 1) := by decide +kernel
theorem dX12_figureOf_15 : decode cX12_figureOf 15 = .ok (.laload, 1) := by decide +kernel
theorem dX12_figureOf_16 : decode cX12_figureOf 16 = .ok (.lload_n 1, 1) := by decide +kernel
theorem dX12_figureOf_17 : decode cX12_figureOf 17 = .ok (.lcmp, 1) := by decide +kernel
theorem dX12_figureOf_18 : decode cX12_figureOf 18 = .ok (.ifCond .ne 5, 3) := by decide +kernel
theorem dX12_figureOf_21 : decode cX12_figureOf 21 = .ok (.iload_n 3, 1) := by decide +kernel
theorem dX12_figureOf_22 : decode cX12_figureOf 22 = .ok (.ireturn, 1) := by decide +kernel
theorem dX12_figureOf_23 : decode cX12_figureOf 23 = .ok (.iinc 3 1, 3) := by decide +kernel
theorem dX12_figureOf_26 : decode cX12_figureOf 26 = .ok (.goto (-24), 3) := by decide +kernel
theorem dX12_figureOf_29 : decode cX12_figureOf 29 = .ok (.iconst (-1), 1) := by decide +kernel
theorem dX12_figureOf_30 : decode cX12_figureOf 30 = .ok (.ireturn, 1) := by decide +kernel
theorem dX12_closes_0 : decode cX12_closes 0 = .ok (.aload_n 0, 1) := by decide +kernel
theorem dX12_closes_1 : decode cX12_closes 1 = .ok (.getfield 258, 3) := by decide +kernel
theorem dX12_closes_4 : decode cX12_closes 4 = .ok (.aload_n 0, 1) := by decide +kernel
theorem dX12_closes_5 : decode cX12_closes 5 = .ok (.getfield 246, 3) := by decide +kernel
theorem dX12_closes_8 : decode cX12_closes 8 = .ok (.iaload, 1) := by decide +kernel
theorem dX12_closes_9 : decode cX12_closes 9 = .ok (.istore_n 1, 1) := by decide +kernel
theorem dX12_closes_10 : decode cX12_closes 10 = .ok (.aload_n 0, 1) := by decide +kernel
theorem dX12_closes_11 : decode cX12_closes 11 = .ok (.getfield 277, 3) := by decide +kernel
theorem dX12_closes_14 : decode cX12_closes 14 = .ok (.iload_n 1, 1) := by decide +kernel
theorem dX12_closes_15 : decode cX12_closes 15 = .ok (.aload_n 0, 1) := by decide +kernel
theorem dX12_closes_16 : decode cX12_closes 16 = .ok (.getfield 234, 3) := by decide +kernel
theorem dX12_closes_19 : decode cX12_closes 19 = .ok (.iastore, 1) := by decide +kernel
theorem dX12_closes_20 : decode cX12_closes 20 = .ok (.aload_n 0, 1) := by decide +kernel
theorem dX12_closes_21 : decode cX12_closes 21 = .ok (.getfield 280, 3) := by decide +kernel
theorem dX12_closes_24 : decode cX12_closes 24 = .ok (.iload_n 1, 1) := by decide +kernel
theorem dX12_closes_25 : decode cX12_closes 25 = .ok (.aload_n 0, 1) := by decide +kernel
theorem dX12_closes_26 : decode cX12_closes 26 = .ok (.getfield 243, 3) := by decide +kernel
theorem dX12_closes_29 : decode cX12_closes 29 = .ok (.aload_n 0, 1) := by decide +kernel
theorem dX12_closes_30 : decode cX12_closes 30 = .ok (.getfield 246, 3) := by decide +kernel
theorem dX12_closes_33 : decode cX12_closes 33 = .ok (.iaload, 1) := by decide +kernel
theorem dX12_closes_34 : decode cX12_closes 34 = .ok (.iastore, 1) := by decide +kernel
theorem dX12_closes_35 : decode cX12_closes 35 = .ok (.aload_n 0, 1) := by decide +kernel
theorem dX12_closes_36 : decode cX12_closes 36 = .ok (.getfield 283, 3) := by decide +kernel
theorem dX12_closes_39 : decode cX12_closes 39 = .ok (.iload_n 1, 1) := by decide +kernel
theorem dX12_closes_40 : decode cX12_closes 40 = .ok (.aload_n 0, 1) := by decide +kernel
theorem dX12_closes_41 : decode cX12_closes 41 = .ok (.getfield 261, 3) := by decide +kernel
theorem dX12_closes_44 : decode cX12_closes 44 = .ok (.aload_n 0, 1) := by decide +kernel
theorem dX12_closes_45 : decode cX12_closes 45 = .ok (.getfield 246, 3) := by decide +kernel
theorem dX12_closes_48 : decode cX12_closes 48 = .ok (.iaload, 1) := by decide +kernel
theorem dX12_closes_49 : decode cX12_closes 49 = .ok (.iastore, 1) := by decide +kernel
theorem dX12_closes_50 : decode cX12_closes 50 = .ok (.aload_n 0, 1) := by decide +kernel
theorem dX12_closes_51 : decode cX12_closes 51 = .ok (.getfield 286, 3) := by decide +kernel
theorem dX12_closes_54 : decode cX12_closes 54 = .ok (.iload_n 1, 1) := by decide +kernel
theorem dX12_closes_55 : decode cX12_closes 55 = .ok (.aload_n 0, 1) := by decide +kernel
theorem dX12_closes_56 : decode cX12_closes 56 = .ok (.getfield 264, 3) := by decide +kernel
theorem dX12_closes_59 : decode cX12_closes 59 = .ok (.aload_n 0, 1) := by decide +kernel
theorem dX12_closes_60 : decode cX12_closes 60 = .ok (.getfield 246, 3) := by decide +kernel
theorem dX12_closes_63 : decode cX12_closes 63 = .ok (.iaload, 1) := by decide +kernel
theorem dX12_closes_64 : decode cX12_closes 64 = .ok (.iastore, 1) := by decide +kernel
theorem dX12_closes_65 : decode cX12_closes 65 = .ok (.aload_n 0, 1) := by decide +kernel
theorem dX12_closes_66 : decode cX12_closes 66 = .ok (.getfield 267, 3) := by decide +kernel
theorem dX12_closes_69 : decode cX12_closes 69 = .ok (.aload_n 0, 1) := by decide +kernel
theorem dX12_closes_70 : decode cX12_closes 70 = .ok (.getfield 246, 3) := by decide +kernel
theorem dX12_closes_73 : decode cX12_closes 73 = .ok (.laload, 1) := by decide +kernel
theorem dX12_closes_74 : decode cX12_closes 74 = .ok (.lstore_n 2, 1) := by decide +kernel
theorem dX12_closes_75 : decode cX12_closes 75 = .ok (.aload_n 0, 1) := by decide +kernel
theorem dX12_closes_76 : decode cX12_closes 76 = .ok (.dup, 1) := by decide +kernel
theorem dX12_closes_77 : decode cX12_closes 77 = .ok (.getfield 246, 3) := by decide +kernel
theorem dX12_closes_80 : decode cX12_closes 80 = .ok (.iconst 1, 1) := by decide +kernel
theorem dX12_closes_81 : decode cX12_closes 81 = .ok (.isub, 1) := by decide +kernel
theorem dX12_closes_82 : decode cX12_closes 82 = .ok (.putfield 246, 3) := by decide +kernel
theorem dX12_closes_85 : decode cX12_closes 85 = .ok (.aload_n 0, 1) := by decide +kernel
theorem dX12_closes_86 : decode cX12_closes 86 = .ok (.getfield 231, 3) := by decide +kernel
theorem dX12_closes_89 : decode cX12_closes 89 = .ok (.iload_n 1, 1) := by decide +kernel
theorem dX12_closes_90 : decode cX12_closes 90 = .ok (.iaload, 1) := by decide +kernel
theorem dX12_closes_91 : decode cX12_closes 91 = .ok (.bipush 7, 2) := by decide +kernel
theorem dX12_closes_93 : decode cX12_closes 93 = .ok (.if_icmp .ne 34, 3) := by decide +kernel
theorem dX12_closes_96 : decode cX12_closes 96 = .ok (.aload_n 0, 1) := by decide +kernel
theorem dX12_closes_97 : decode cX12_closes 97 = .ok (.getfield 274, 3) := by decide +kernel
theorem dX12_closes_100 : decode cX12_closes 100 = .ok (.aload_n 0, 1) := by decide +kernel
theorem dX12_closes_101 : decode cX12_closes 101 = .ok (.getfield 271, 3) := by decide +kernel
theorem dX12_closes_104 : decode cX12_closes 104 = .ok (.lload_n 2, 1) := by decide +kernel
theorem dX12_closes_105 : decode cX12_closes 105 = .ok (.lastore, 1) := by decide +kernel
theorem dX12_closes_106 : decode cX12_closes 106 = .ok (.aload_n 0, 1) := by decide +kernel
theorem dX12_closes_107 : decode cX12_closes 107 = .ok (.getfield 289, 3) := by decide +kernel
theorem dX12_closes_110 : decode cX12_closes 110 = .ok (.aload_n 0, 1) := by decide +kernel
theorem dX12_closes_111 : decode cX12_closes 111 = .ok (.getfield 271, 3) := by decide +kernel
theorem dX12_closes_114 : decode cX12_closes 114 = .ok (.iload_n 1, 1) := by decide +kernel
theorem dX12_closes_115 : decode cX12_closes 115 = .ok (.iastore, 1) := by decide +kernel
theorem dX12_closes_116 : decode cX12_closes 116 = .ok (.aload_n 0, 1) := by decide +kernel
theorem dX12_closes_117 : decode cX12_closes 117 = .ok (.dup, 1) := by decide +kernel
theorem dX12_closes_118 : decode cX12_closes 118 = .ok (.getfield 271, 3) := by decide +kernel
theorem dX12_closes_121 : decode cX12_closes 121 = .ok (.iconst 1, 1) := by decide +kernel
theorem dX12_closes_122 : decode cX12_closes 122 = .ok (.iadd, 1) := by decide +kernel
theorem dX12_closes_123 : decode cX12_closes 123 = .ok (.putfield 271, 3) := by decide +kernel
theorem dX12_closes_126 : decode cX12_closes 126 = .ok (.return_, 1) := by decide +kernel
theorem dX12_closes_127 : decode cX12_closes 127 = .ok (.aload_n 0, 1) := by decide +kernel
theorem dX12_closes_128 : decode cX12_closes 128 = .ok (.getfield 237, 3) := by decide +kernel
theorem dX12_closes_131 : decode cX12_closes 131 = .ok (.iload_n 1, 1) := by decide +kernel
theorem dX12_closes_132 : decode cX12_closes 132 = .ok (.iaload, 1) := by decide +kernel
theorem dX12_closes_133 : decode cX12_closes 133 = .ok (.ifCond .ne 4, 3) := by decide +kernel
theorem dX12_closes_136 : decode cX12_closes 136 = .ok (.return_, 1) := by decide +kernel
theorem dX12_closes_137 : decode cX12_closes 137 = .ok (.aload_n 0, 1) := by decide +kernel
theorem dX12_closes_138 : decode cX12_closes 138 = .ok (.getfield 280, 3) := by decide +kernel
theorem dX12_closes_141 : decode cX12_closes 141 = .ok (.iload_n 1, 1) := by decide +kernel
theorem dX12_closes_142 : decode cX12_closes 142 = .ok (.iaload, 1) := by decide +kernel
theorem dX12_closes_143 : decode cX12_closes 143 = .ok (.i2l, 1) := by decide +kernel
theorem dX12_closes_144 : decode cX12_closes 144 = .ok (.aload_n 0, 1) := by decide +kernel
theorem dX12_closes_145 : decode cX12_closes 145 = .ok (.getfield 237, 3) := by decide +kernel
theorem dX12_closes_148 : decode cX12_closes 148 = .ok (.iload_n 1, 1) := by decide +kernel
theorem dX12_closes_149 : decode cX12_closes 149 = .ok (.iaload, 1) := by decide +kernel
theorem dX12_closes_150 : decode cX12_closes 150 = .ok (.i2l, 1) := by decide +kernel
theorem dX12_closes_151 : decode cX12_closes 151 = .ok (.lmul, 1) := by decide +kernel
theorem dX12_closes_152 : decode cX12_closes 152 = .ok (.lstore 4, 2) := by decide +kernel
theorem dX12_closes_154 : decode cX12_closes 154 = .ok (.aload_n 0, 1) := by decide +kernel
theorem dX12_closes_155 : decode cX12_closes 155 = .ok (.lload 4, 2) := by decide +kernel
theorem dX12_closes_157 : decode cX12_closes 157 = .ok (.ldc2_w 292, 3) := by decide +kernel
theorem dX12_closes_160 : decode cX12_closes 160 = .ok (.lcmp, 1) := by decide +kernel
theorem dX12_closes_161 : decode cX12_closes 161 = .ok (.ifCond .le 8, 3) := by decide +kernel
theorem dX12_closes_164 : decode cX12_closes 164 = .ok (.ldc 249, 2) := by decide +kernel
theorem dX12_closes_166 : decode cX12_closes 166 = .ok (.goto 6, 3) := by decide +kernel
theorem dX12_closes_169 : decode cX12_closes 169 = .ok (.lload 4, 2) := by decide +kernel
theorem dX12_closes_171 : decode cX12_closes 171 = .ok (.l2i, 1) := by decide +kernel
theorem dX12_closes_172 : decode cX12_closes 172 = .ok (.invokevirtual 294, 3) := by decide +kernel
theorem dX12_closes_175 : decode cX12_closes 175 = .ok (.aload_n 0, 1) := by decide +kernel
theorem dX12_closes_176 : decode cX12_closes 176 = .ok (.iload_n 1, 1) := by decide +kernel
theorem dX12_closes_177 : decode cX12_closes 177 = .ok (.invokevirtual 297, 3) := by decide +kernel
theorem dX12_closes_180 : decode cX12_closes 180 = .ok (.return_, 1) := by decide +kernel
theorem dX12_tells_0 : decode cX12_tells 0 = .ok (.aload_n 0, 1) := by decide +kernel
theorem dX12_tells_1 : decode cX12_tells 1 = .ok (.getfield 283, 3) := by decide +kernel
theorem dX12_tells_4 : decode cX12_tells 4 = .ok (.iload_n 1, 1) := by decide +kernel
theorem dX12_tells_5 : decode cX12_tells 5 = .ok (.iaload, 1) := by decide +kernel
theorem dX12_tells_6 : decode cX12_tells 6 = .ok (.iconst (-1), 1) := by decide +kernel
theorem dX12_tells_7 : decode cX12_tells 7 = .ok (.if_icmp .eq 18, 3) := by decide +kernel
theorem dX12_tells_10 : decode cX12_tells 10 = .ok (.aload_n 0, 1) := by decide +kernel
theorem dX12_tells_11 : decode cX12_tells 11 = .ok (.getfield 261, 3) := by decide +kernel
theorem dX12_tells_14 : decode cX12_tells 14 = .ok (.aload_n 0, 1) := by decide +kernel
theorem dX12_tells_15 : decode cX12_tells 15 = .ok (.getfield 246, 3) := by decide +kernel
theorem dX12_tells_18 : decode cX12_tells 18 = .ok (.aload_n 0, 1) := by decide +kernel
theorem dX12_tells_19 : decode cX12_tells 19 = .ok (.getfield 283, 3) := by decide +kernel
theorem dX12_tells_22 : decode cX12_tells 22 = .ok (.iload_n 1, 1) := by decide +kernel
theorem dX12_tells_23 : decode cX12_tells 23 = .ok (.iaload, 1) := by decide +kernel
theorem dX12_tells_24 : decode cX12_tells 24 = .ok (.iastore, 1) := by decide +kernel
theorem dX12_tells_25 : decode cX12_tells 25 = .ok (.aload_n 0, 1) := by decide +kernel
theorem dX12_tells_26 : decode cX12_tells 26 = .ok (.getfield 286, 3) := by decide +kernel
theorem dX12_tells_29 : decode cX12_tells 29 = .ok (.iload_n 1, 1) := by decide +kernel
theorem dX12_tells_30 : decode cX12_tells 30 = .ok (.iaload, 1) := by decide +kernel
theorem dX12_tells_31 : decode cX12_tells 31 = .ok (.iconst (-1), 1) := by decide +kernel
theorem dX12_tells_32 : decode cX12_tells 32 = .ok (.if_icmp .eq 18, 3) := by decide +kernel
theorem dX12_tells_35 : decode cX12_tells 35 = .ok (.aload_n 0, 1) := by decide +kernel
theorem dX12_tells_36 : decode cX12_tells 36 = .ok (.getfield 264, 3) := by decide +kernel
theorem dX12_tells_39 : decode cX12_tells 39 = .ok (.aload_n 0, 1) := by decide +kernel
theorem dX12_tells_40 : decode cX12_tells 40 = .ok (.getfield 246, 3) := by decide +kernel
theorem dX12_tells_43 : decode cX12_tells 43 = .ok (.aload_n 0, 1) := by decide +kernel
theorem dX12_tells_44 : decode cX12_tells 44 = .ok (.getfield 286, 3) := by decide +kernel
theorem dX12_tells_47 : decode cX12_tells 47 = .ok (.iload_n 1, 1) := by decide +kernel
theorem dX12_tells_48 : decode cX12_tells 48 = .ok (.iaload, 1) := by decide +kernel
theorem dX12_tells_49 : decode cX12_tells 49 = .ok (.iastore, 1) := by decide +kernel
theorem dX12_tells_50 : decode cX12_tells 50 = .ok (.return_, 1) := by decide +kernel
theorem dX12_isOpenName_0 : decode cX12_isOpenName 0 = .ok (.aload_n 0, 1) := by decide +kernel
theorem dX12_isOpenName_1 : decode cX12_isOpenName 1 = .ok (.lload_n 1, 1) := by decide +kernel
theorem dX12_isOpenName_2 : decode cX12_isOpenName 2 = .ok (.invokevirtual 300, 3) := by decide +kernel
theorem dX12_isOpenName_5 : decode cX12_isOpenName 5 = .ok (.iconst (-1), 1) := by decide +kernel
theorem dX12_isOpenName_6 : decode cX12_isOpenName 6 = .ok (.if_icmp .eq 7, 3) := by decide +kernel
theorem dX12_isOpenName_9 : decode cX12_isOpenName 9 = .ok (.iconst 1, 1) := by decide +kernel
theorem dX12_isOpenName_10 : decode cX12_isOpenName 10 = .ok (.goto 4, 3) := by decide +kernel
theorem dX12_isOpenName_13 : decode cX12_isOpenName 13 = .ok (.iconst 0, 1) := by decide +kernel
theorem dX12_isOpenName_14 : decode cX12_isOpenName 14 = .ok (.ireturn, 1) := by decide +kernel
theorem dX12_figure_0 : decode cX12_figure 0 = .ok (.aload_n 0, 1) := by decide +kernel
theorem dX12_figure_1 : decode cX12_figure 1 = .ok (.getfield 271, 3) := by decide +kernel
theorem dX12_figure_4 : decode cX12_figure 4 = .ok (.bipush 12, 2) := by decide +kernel
theorem dX12_figure_6 : decode cX12_figure 6 = .ok (.if_icmp .ne 10, 3) := by decide +kernel
theorem dX12_figure_9 : decode cX12_figure 9 = .ok (.aload_n 0, 1) := by decide +kernel
theorem dX12_figure_10 : decode cX12_figure 10 = .ok (.iconst 4, 1) := by decide +kernel
theorem dX12_figure_11 : decode cX12_figure 11 = .ok (.iload_n 1, 1) := by decide +kernel
theorem dX12_figure_12 : decode cX12_figure 12 = .ok (.invokevirtual 217, 3) := by decide +kernel
theorem dX12_figure_15 : decode cX12_figure 15 = .ok (.return_, 1) := by decide +kernel
theorem dX12_figure_16 : decode cX12_figure 16 = .ok (.aload_n 0, 1) := by decide +kernel
theorem dX12_figure_17 : decode cX12_figure 17 = .ok (.invokevirtual 303, 3) := by decide +kernel
theorem dX12_figure_20 : decode cX12_figure 20 = .ok (.lstore_n 2, 1) := by decide +kernel
theorem dX12_figure_21 : decode cX12_figure 21 = .ok (.aload_n 0, 1) := by decide +kernel
theorem dX12_figure_22 : decode cX12_figure 22 = .ok (.getfield 192, 3) := by decide +kernel
theorem dX12_figure_25 : decode cX12_figure 25 = .ok (.ifCond .ne 20, 3) := by decide +kernel
theorem dX12_figure_28 : decode cX12_figure 28 = .ok (.aload_n 0, 1) := by decide +kernel
theorem dX12_figure_29 : decode cX12_figure 29 = .ok (.lload_n 2, 1) := by decide +kernel
theorem dX12_figure_30 : decode cX12_figure 30 = .ok (.invokevirtual 306, 3) := by decide +kernel
theorem dX12_figure_33 : decode cX12_figure 33 = .ok (.ifCond .eq 12, 3) := by decide +kernel
theorem dX12_figure_36 : decode cX12_figure 36 = .ok (.aload_n 0, 1) := by decide +kernel
theorem dX12_figure_37 : decode cX12_figure 37 = .ok (.iconst 3, 1) := by decide +kernel
theorem dX12_figure_38 : decode cX12_figure 38 = .ok (.aload_n 0, 1) := by decide +kernel
theorem dX12_figure_39 : decode cX12_figure 39 = .ok (.getfield 224, 3) := by decide +kernel
theorem dX12_figure_42 : decode cX12_figure 42 = .ok (.invokevirtual 217, 3) := by decide +kernel
theorem dX12_figure_45 : decode cX12_figure 45 = .ok (.aload_n 0, 1) := by decide +kernel
theorem dX12_figure_46 : decode cX12_figure 46 = .ok (.bipush 7, 2) := by decide +kernel
theorem dX12_figure_48 : decode cX12_figure 48 = .ok (.iconst 0, 1) := by decide +kernel
theorem dX12_figure_49 : decode cX12_figure 49 = .ok (.lload_n 2, 1) := by decide +kernel
theorem dX12_figure_50 : decode cX12_figure 50 = .ok (.invokevirtual 310, 3) := by decide +kernel
theorem dX12_figure_53 : decode cX12_figure 53 = .ok (.return_, 1) := by decide +kernel
theorem dX12_does_0 : decode cX12_does 0 = .ok (.aload_n 0, 1) := by decide +kernel
theorem dX12_does_1 : decode cX12_does 1 = .ok (.invokevirtual 303, 3) := by decide +kernel
theorem dX12_does_4 : decode cX12_does 4 = .ok (.lstore_n 1, 1) := by decide +kernel
theorem dX12_does_5 : decode cX12_does 5 = .ok (.aload_n 0, 1) := by decide +kernel
theorem dX12_does_6 : decode cX12_does 6 = .ok (.getfield 192, 3) := by decide +kernel
theorem dX12_does_9 : decode cX12_does 9 = .ok (.ifCond .eq 4, 3) := by decide +kernel
theorem dX12_does_12 : decode cX12_does 12 = .ok (.return_, 1) := by decide +kernel
theorem dX12_does_13 : decode cX12_does 13 = .ok (.aload_n 0, 1) := by decide +kernel
theorem dX12_does_14 : decode cX12_does 14 = .ok (.lload_n 1, 1) := by decide +kernel
theorem dX12_does_15 : decode cX12_does 15 = .ok (.invokevirtual 300, 3) := by decide +kernel
theorem dX12_does_18 : decode cX12_does 18 = .ok (.istore_n 3, 1) := by decide +kernel
theorem dX12_does_19 : decode cX12_does 19 = .ok (.iload_n 3, 1) := by decide +kernel
theorem dX12_does_20 : decode cX12_does 20 = .ok (.iconst (-1), 1) := by decide +kernel
theorem dX12_does_21 : decode cX12_does 21 = .ok (.if_icmp .ne 13, 3) := by decide +kernel
theorem dX12_does_24 : decode cX12_does 24 = .ok (.aload_n 0, 1) := by decide +kernel
theorem dX12_does_25 : decode cX12_does 25 = .ok (.iconst 3, 1) := by decide +kernel
theorem dX12_does_26 : decode cX12_does 26 = .ok (.aload_n 0, 1) := by decide +kernel
theorem dX12_does_27 : decode cX12_does 27 = .ok (.getfield 224, 3) := by decide +kernel
theorem dX12_does_30 : decode cX12_does 30 = .ok (.invokevirtual 217, 3) := by decide +kernel
theorem dX12_does_33 : decode cX12_does 33 = .ok (.return_, 1) := by decide +kernel
theorem dX12_does_34 : decode cX12_does 34 = .ok (.aload_n 0, 1) := by decide +kernel
theorem dX12_does_35 : decode cX12_does 35 = .ok (.bipush 8, 2) := by decide +kernel
theorem dX12_does_37 : decode cX12_does 37 = .ok (.iload_n 3, 1) := by decide +kernel
theorem dX12_does_38 : decode cX12_does 38 = .ok (.iconst 0, 1) := by decide +kernel
theorem dX12_does_39 : decode cX12_does 39 = .ok (.invokevirtual 254, 3) := by decide +kernel
theorem dX12_does_42 : decode cX12_does 42 = .ok (.pop, 1) := by decide +kernel
theorem dX12_does_43 : decode cX12_does 43 = .ok (.aload_n 0, 1) := by decide +kernel
theorem dX12_does_44 : decode cX12_does 44 = .ok (.aload_n 0, 1) := by decide +kernel
theorem dX12_does_45 : decode cX12_does 45 = .ok (.getfield 280, 3) := by decide +kernel
theorem dX12_does_48 : decode cX12_does 48 = .ok (.aload_n 0, 1) := by decide +kernel
theorem dX12_does_49 : decode cX12_does 49 = .ok (.getfield 289, 3) := by decide +kernel
theorem dX12_does_52 : decode cX12_does 52 = .ok (.iload_n 3, 1) := by decide +kernel
theorem dX12_does_53 : decode cX12_does 53 = .ok (.iaload, 1) := by decide +kernel
theorem dX12_does_54 : decode cX12_does 54 = .ok (.iaload, 1) := by decide +kernel
theorem dX12_does_55 : decode cX12_does 55 = .ok (.invokevirtual 294, 3) := by decide +kernel
theorem dX12_does_58 : decode cX12_does 58 = .ok (.aload_n 0, 1) := by decide +kernel
theorem dX12_does_59 : decode cX12_does 59 = .ok (.aload_n 0, 1) := by decide +kernel
theorem dX12_does_60 : decode cX12_does 60 = .ok (.getfield 289, 3) := by decide +kernel
theorem dX12_does_63 : decode cX12_does 63 = .ok (.iload_n 3, 1) := by decide +kernel
theorem dX12_does_64 : decode cX12_does 64 = .ok (.iaload, 1) := by decide +kernel
theorem dX12_does_65 : decode cX12_does 65 = .ok (.invokevirtual 297, 3) := by decide +kernel
theorem dX12_does_68 : decode cX12_does 68 = .ok (.return_, 1) := by decide +kernel
theorem dX12_statement_0 : decode cX12_statement 0 = .ok (.aload_n 0, 1) := by decide +kernel
theorem dX12_statement_1 : decode cX12_statement 1 = .ok (.invokevirtual 204, 3) := by decide +kernel
theorem dX12_statement_4 : decode cX12_statement 4 = .ok (.pop, 1) := by decide +kernel
theorem dX12_statement_5 : decode cX12_statement 5 = .ok (.aload_n 0, 1) := by decide +kernel
theorem dX12_statement_6 : decode cX12_statement 6 = .ok (.getfield 198, 3) := by decide +kernel
theorem dX12_statement_9 : decode cX12_statement 9 = .ok (.istore_n 1, 1) := by decide +kernel
theorem dX12_statement_10 : decode cX12_statement 10 = .ok (.aload_n 0, 1) := by decide +kernel
theorem dX12_statement_11 : decode cX12_statement 11 = .ok (.aload_n 0, 1) := by decide +kernel
theorem dX12_statement_12 : decode cX12_statement 12 = .ok (.getfield 314, 3) := by decide +kernel
theorem dX12_statement_15 : decode cX12_statement 15 = .ok (.invokevirtual 213, 3) := by decide +kernel
theorem dX12_statement_18 : decode cX12_statement 18 = .ok (.ifCond .eq 33, 3) := by decide +kernel
theorem dX12_statement_21 : decode cX12_statement 21 = .ok (.aload_n 0, 1) := by decide +kernel
theorem dX12_statement_22 : decode cX12_statement 22 = .ok (.iconst 0, 1) := by decide +kernel
theorem dX12_statement_23 : decode cX12_statement 23 = .ok (.sipush 1000, 3) := by decide +kernel
theorem dX12_statement_26 : decode cX12_statement 26 = .ok (.invokevirtual 318, 3) := by decide +kernel
theorem dX12_statement_29 : decode cX12_statement 29 = .ok (.istore_n 2, 1) := by decide +kernel
theorem dX12_statement_30 : decode cX12_statement 30 = .ok (.aload_n 0, 1) := by decide +kernel
theorem dX12_statement_31 : decode cX12_statement 31 = .ok (.iconst 1, 1) := by decide +kernel
theorem dX12_statement_32 : decode cX12_statement 32 = .ok (.iload_n 2, 1) := by decide +kernel
theorem dX12_statement_33 : decode cX12_statement 33 = .ok (.iconst 0, 1) := by decide +kernel
theorem dX12_statement_34 : decode cX12_statement 34 = .ok (.invokevirtual 254, 3) := by decide +kernel
theorem dX12_statement_37 : decode cX12_statement 37 = .ok (.pop, 1) := by decide +kernel
theorem dX12_statement_38 : decode cX12_statement 38 = .ok (.aload_n 0, 1) := by decide +kernel
theorem dX12_statement_39 : decode cX12_statement 39 = .ok (.getfield 261, 3) := by decide +kernel
theorem dX12_statement_42 : decode cX12_statement 42 = .ok (.aload_n 0, 1) := by decide +kernel
theorem dX12_statement_43 : decode cX12_statement 43 = .ok (.getfield 246, 3) := by decide +kernel
theorem dX12_statement_46 : decode cX12_statement 46 = .ok (.iload_n 2, 1) := by decide +kernel
theorem dX12_statement_47 : decode cX12_statement 47 = .ok (.iastore, 1) := by decide +kernel
theorem dX12_statement_48 : decode cX12_statement 48 = .ok (.goto 299, 3) := by decide +kernel
theorem dX12_statement_51 : decode cX12_statement 51 = .ok (.aload_n 0, 1) := by decide +kernel
theorem dX12_statement_52 : decode cX12_statement 52 = .ok (.aload_n 0, 1) := by decide +kernel
theorem dX12_statement_53 : decode cX12_statement 53 = .ok (.getfield 322, 3) := by decide +kernel
theorem dX12_statement_56 : decode cX12_statement 56 = .ok (.invokevirtual 213, 3) := by decide +kernel
theorem dX12_statement_59 : decode cX12_statement 59 = .ok (.ifCond .eq 53, 3) := by decide +kernel
theorem dX12_statement_62 : decode cX12_statement 62 = .ok (.aload_n 0, 1) := by decide +kernel
theorem dX12_statement_63 : decode cX12_statement 63 = .ok (.aload_n 0, 1) := by decide +kernel
theorem dX12_statement_64 : decode cX12_statement 64 = .ok (.getfield 325, 3) := by decide +kernel
theorem dX12_statement_67 : decode cX12_statement 67 = .ok (.invokevirtual 328, 3) := by decide +kernel
theorem dX12_statement_70 : decode cX12_statement 70 = .ok (.aload_n 0, 1) := by decide +kernel
theorem dX12_statement_71 : decode cX12_statement 71 = .ok (.iconst 0, 1) := by decide +kernel
theorem dX12_statement_72 : decode cX12_statement 72 = .ok (.sipush 1000, 3) := by decide +kernel
theorem dX12_statement_75 : decode cX12_statement 75 = .ok (.invokevirtual 318, 3) := by decide +kernel
theorem dX12_statement_78 : decode cX12_statement 78 = .ok (.istore_n 2, 1) := by decide +kernel
theorem dX12_statement_79 : decode cX12_statement 79 = .ok (.aload_n 0, 1) := by decide +kernel
theorem dX12_statement_80 : decode cX12_statement 80 = .ok (.aload_n 0, 1) := by decide +kernel
theorem dX12_statement_81 : decode cX12_statement 81 = .ok (.getfield 332, 3) := by decide +kernel
theorem dX12_statement_84 : decode cX12_statement 84 = .ok (.invokevirtual 328, 3) := by decide +kernel
theorem dX12_statement_87 : decode cX12_statement 87 = .ok (.aload_n 0, 1) := by decide +kernel
theorem dX12_statement_88 : decode cX12_statement 88 = .ok (.iconst 1, 1) := by decide +kernel
theorem dX12_statement_89 : decode cX12_statement 89 = .ok (.sipush 200, 3) := by decide +kernel
theorem dX12_statement_92 : decode cX12_statement 92 = .ok (.invokevirtual 318, 3) := by decide +kernel
theorem dX12_statement_95 : decode cX12_statement 95 = .ok (.istore_n 3, 1) := by decide +kernel
theorem dX12_statement_96 : decode cX12_statement 96 = .ok (.aload_n 0, 1) := by decide +kernel
theorem dX12_statement_97 : decode cX12_statement 97 = .ok (.iconst 2, 1) := by decide +kernel
theorem dX12_statement_98 : decode cX12_statement 98 = .ok (.iload_n 2, 1) := by decide +kernel
theorem dX12_statement_99 : decode cX12_statement 99 = .ok (.iload_n 3, 1) := by decide +kernel
theorem dX12_statement_100 : decode cX12_statement 100 = .ok (.invokevirtual 254, 3) := by decide +kernel
theorem dX12_statement_103 : decode cX12_statement 103 = .ok (.pop, 1) := by decide +kernel
theorem dX12_statement_104 : decode cX12_statement 104 = .ok (.aload_n 0, 1) := by decide +kernel
theorem dX12_statement_105 : decode cX12_statement 105 = .ok (.iload_n 3, 1) := by decide +kernel
theorem dX12_statement_106 : decode cX12_statement 106 = .ok (.invokevirtual 294, 3) := by decide +kernel
theorem dX12_statement_109 : decode cX12_statement 109 = .ok (.goto 238, 3) := by decide +kernel
theorem dX12_statement_112 : decode cX12_statement 112 = .ok (.aload_n 0, 1) := by decide +kernel
theorem dX12_statement_113 : decode cX12_statement 113 = .ok (.aload_n 0, 1) := by decide +kernel
theorem dX12_statement_114 : decode cX12_statement 114 = .ok (.getfield 335, 3) := by decide +kernel
theorem dX12_statement_117 : decode cX12_statement 117 = .ok (.invokevirtual 213, 3) := by decide +kernel
theorem dX12_statement_120 : decode cX12_statement 120 = .ok (.ifCond .eq 28, 3) := by decide +kernel
theorem dX12_statement_123 : decode cX12_statement 123 = .ok (.aload_n 0, 1) := by decide +kernel
theorem dX12_statement_124 : decode cX12_statement 124 = .ok (.iconst 1, 1) := by decide +kernel
theorem dX12_statement_125 : decode cX12_statement 125 = .ok (.sipush 200, 3) := by decide +kernel
theorem dX12_statement_128 : decode cX12_statement 128 = .ok (.invokevirtual 318, 3) := by decide +kernel
theorem dX12_statement_131 : decode cX12_statement 131 = .ok (.istore_n 2, 1) := by decide +kernel
theorem dX12_statement_132 : decode cX12_statement 132 = .ok (.aload_n 0, 1) := by decide +kernel
theorem dX12_statement_133 : decode cX12_statement 133 = .ok (.iconst 3, 1) := by decide +kernel
theorem dX12_statement_134 : decode cX12_statement 134 = .ok (.iload_n 2, 1) := by decide +kernel
theorem dX12_statement_135 : decode cX12_statement 135 = .ok (.iconst 0, 1) := by decide +kernel
theorem dX12_statement_136 : decode cX12_statement 136 = .ok (.invokevirtual 254, 3) := by decide +kernel
theorem dX12_statement_139 : decode cX12_statement 139 = .ok (.pop, 1) := by decide +kernel
theorem dX12_statement_140 : decode cX12_statement 140 = .ok (.aload_n 0, 1) := by decide +kernel
theorem dX12_statement_141 : decode cX12_statement 141 = .ok (.iload_n 2, 1) := by decide +kernel
theorem dX12_statement_142 : decode cX12_statement 142 = .ok (.invokevirtual 294, 3) := by decide +kernel
theorem dX12_statement_145 : decode cX12_statement 145 = .ok (.goto 202, 3) := by decide +kernel
theorem dX12_statement_148 : decode cX12_statement 148 = .ok (.aload_n 0, 1) := by decide +kernel
theorem dX12_statement_149 : decode cX12_statement 149 = .ok (.aload_n 0, 1) := by decide +kernel
theorem dX12_statement_150 : decode cX12_statement 150 = .ok (.getfield 338, 3) := by decide +kernel
theorem dX12_statement_153 : decode cX12_statement 153 = .ok (.invokevirtual 213, 3) := by decide +kernel
theorem dX12_statement_156 : decode cX12_statement 156 = .ok (.ifCond .eq 43, 3) := by decide +kernel
theorem dX12_statement_159 : decode cX12_statement 159 = .ok (.aload_n 0, 1) := by decide +kernel
theorem dX12_statement_160 : decode cX12_statement 160 = .ok (.iconst 1, 1) := by decide +kernel
theorem dX12_statement_161 : decode cX12_statement 161 = .ok (.bipush 40, 2) := by decide +kernel
theorem dX12_statement_163 : decode cX12_statement 163 = .ok (.invokevirtual 318, 3) := by decide +kernel
theorem dX12_statement_166 : decode cX12_statement 166 = .ok (.istore_n 2, 1) := by decide +kernel
theorem dX12_statement_167 : decode cX12_statement 167 = .ok (.aload_n 0, 1) := by decide +kernel
theorem dX12_statement_168 : decode cX12_statement 168 = .ok (.aload_n 0, 1) := by decide +kernel
theorem dX12_statement_169 : decode cX12_statement 169 = .ok (.getfield 332, 3) := by decide +kernel
theorem dX12_statement_172 : decode cX12_statement 172 = .ok (.invokevirtual 328, 3) := by decide +kernel
theorem dX12_statement_175 : decode cX12_statement 175 = .ok (.aload_n 0, 1) := by decide +kernel
theorem dX12_statement_176 : decode cX12_statement 176 = .ok (.iconst 2, 1) := by decide +kernel
theorem dX12_statement_177 : decode cX12_statement 177 = .ok (.bipush 40, 2) := by decide +kernel
theorem dX12_statement_179 : decode cX12_statement 179 = .ok (.invokevirtual 318, 3) := by decide +kernel
theorem dX12_statement_182 : decode cX12_statement 182 = .ok (.istore_n 3, 1) := by decide +kernel
theorem dX12_statement_183 : decode cX12_statement 183 = .ok (.aload_n 0, 1) := by decide +kernel
theorem dX12_statement_184 : decode cX12_statement 184 = .ok (.iconst 4, 1) := by decide +kernel
theorem dX12_statement_185 : decode cX12_statement 185 = .ok (.iload_n 2, 1) := by decide +kernel
theorem dX12_statement_186 : decode cX12_statement 186 = .ok (.iload_n 3, 1) := by decide +kernel
theorem dX12_statement_187 : decode cX12_statement 187 = .ok (.invokevirtual 254, 3) := by decide +kernel
theorem dX12_statement_190 : decode cX12_statement 190 = .ok (.pop, 1) := by decide +kernel
theorem dX12_statement_191 : decode cX12_statement 191 = .ok (.aload_n 0, 1) := by decide +kernel
theorem dX12_statement_192 : decode cX12_statement 192 = .ok (.iload_n 3, 1) := by decide +kernel
theorem dX12_statement_193 : decode cX12_statement 193 = .ok (.invokevirtual 294, 3) := by decide +kernel
theorem dX12_statement_196 : decode cX12_statement 196 = .ok (.goto 151, 3) := by decide +kernel
theorem dX12_statement_199 : decode cX12_statement 199 = .ok (.aload_n 0, 1) := by decide +kernel
theorem dX12_statement_200 : decode cX12_statement 200 = .ok (.aload_n 0, 1) := by decide +kernel
theorem dX12_statement_201 : decode cX12_statement 201 = .ok (.getfield 341, 3) := by decide +kernel
theorem dX12_statement_204 : decode cX12_statement 204 = .ok (.invokevirtual 213, 3) := by decide +kernel
theorem dX12_statement_207 : decode cX12_statement 207 = .ok (.ifCond .eq 61, 3) := by decide +kernel
theorem dX12_statement_210 : decode cX12_statement 210 = .ok (.aload_n 0, 1) := by decide +kernel
theorem dX12_statement_211 : decode cX12_statement 211 = .ok (.aload_n 0, 1) := by decide +kernel
theorem dX12_statement_212 : decode cX12_statement 212 = .ok (.getfield 344, 3) := by decide +kernel
theorem dX12_statement_215 : decode cX12_statement 215 = .ok (.invokevirtual 213, 3) := by decide +kernel
theorem dX12_statement_218 : decode cX12_statement 218 = .ok (.istore_n 2, 1) := by decide +kernel
theorem dX12_statement_219 : decode cX12_statement 219 = .ok (.iload_n 2, 1) := by decide +kernel
theorem dX12_statement_220 : decode cX12_statement 220 = .ok (.ifCond .ne 11, 3) := by decide +kernel
theorem dX12_statement_223 : decode cX12_statement 223 = .ok (.aload_n 0, 1) := by decide +kernel
theorem dX12_statement_224 : decode cX12_statement 224 = .ok (.aload_n 0, 1) := by decide +kernel
theorem dX12_statement_225 : decode cX12_statement 225 = .ok (.getfield 347, 3) := by decide +kernel
theorem dX12_statement_228 : decode cX12_statement 228 = .ok (.invokevirtual 328, 3) := by decide +kernel
theorem dX12_statement_231 : decode cX12_statement 231 = .ok (.aload_n 0, 1) := by decide +kernel
theorem dX12_statement_232 : decode cX12_statement 232 = .ok (.iconst 5, 1) := by decide +kernel
theorem dX12_statement_233 : decode cX12_statement 233 = .ok (.iload_n 2, 1) := by decide +kernel
theorem dX12_statement_234 : decode cX12_statement 234 = .ok (.ifCond .eq 7, 3) := by decide +kernel
theorem dX12_statement_237 : decode cX12_statement 237 = .ok (.iconst 1, 1) := by decide +kernel
theorem dX12_statement_238 : decode cX12_statement 238 = .ok (.goto 4, 3) := by decide +kernel
theorem dX12_statement_241 : decode cX12_statement 241 = .ok (.iconst 0, 1) := by decide +kernel
theorem dX12_statement_242 : decode cX12_statement 242 = .ok (.iconst 0, 1) := by decide +kernel
theorem dX12_statement_243 : decode cX12_statement 243 = .ok (.invokevirtual 254, 3) := by decide +kernel
theorem dX12_statement_246 : decode cX12_statement 246 = .ok (.pop, 1) := by decide +kernel
theorem dX12_statement_247 : decode cX12_statement 247 = .ok (.aload_n 0, 1) := by decide +kernel
theorem dX12_statement_248 : decode cX12_statement 248 = .ok (.getfield 264, 3) := by decide +kernel
theorem dX12_statement_251 : decode cX12_statement 251 = .ok (.aload_n 0, 1) := by decide +kernel
theorem dX12_statement_252 : decode cX12_statement 252 = .ok (.getfield 246, 3) := by decide +kernel
theorem dX12_statement_255 : decode cX12_statement 255 = .ok (.iload_n 2, 1) := by decide +kernel
theorem dX12_statement_256 : decode cX12_statement 256 = .ok (.ifCond .eq 7, 3) := by decide +kernel
theorem dX12_statement_259 : decode cX12_statement 259 = .ok (.iconst 1, 1) := by decide +kernel
theorem dX12_statement_260 : decode cX12_statement 260 = .ok (.goto 4, 3) := by decide +kernel
theorem dX12_statement_263 : decode cX12_statement 263 = .ok (.iconst 0, 1) := by decide +kernel
theorem dX12_statement_264 : decode cX12_statement 264 = .ok (.iastore, 1) := by decide +kernel
theorem dX12_statement_265 : decode cX12_statement 265 = .ok (.goto 82, 3) := by decide +kernel
theorem dX12_statement_268 : decode cX12_statement 268 = .ok (.aload_n 0, 1) := by decide +kernel
theorem dX12_statement_269 : decode cX12_statement 269 = .ok (.aload_n 0, 1) := by decide +kernel
theorem dX12_statement_270 : decode cX12_statement 270 = .ok (.getfield 350, 3) := by decide +kernel
theorem dX12_statement_273 : decode cX12_statement 273 = .ok (.invokevirtual 213, 3) := by decide +kernel
theorem dX12_statement_276 : decode cX12_statement 276 = .ok (.ifCond .eq 19, 3) := by decide +kernel
theorem dX12_statement_279 : decode cX12_statement 279 = .ok (.aload_n 0, 1) := by decide +kernel
theorem dX12_statement_280 : decode cX12_statement 280 = .ok (.bipush 6, 2) := by decide +kernel
theorem dX12_statement_282 : decode cX12_statement 282 = .ok (.aload_n 0, 1) := by decide +kernel
theorem dX12_statement_283 : decode cX12_statement 283 = .ok (.iconst 0, 1) := by decide +kernel
theorem dX12_statement_284 : decode cX12_statement 284 = .ok (.bipush 20, 2) := by decide +kernel
theorem dX12_statement_286 : decode cX12_statement 286 = .ok (.invokevirtual 318, 3) := by decide +kernel
theorem dX12_statement_289 : decode cX12_statement 289 = .ok (.lconst 0, 1) := by decide +kernel
theorem dX12_statement_290 : decode cX12_statement 290 = .ok (.invokevirtual 310, 3) := by decide +kernel
theorem dX12_statement_293 : decode cX12_statement 293 = .ok (.iconst 0, 1) := by decide +kernel
theorem dX12_statement_294 : decode cX12_statement 294 = .ok (.ireturn, 1) := by decide +kernel
theorem dX12_statement_295 : decode cX12_statement 295 = .ok (.aload_n 0, 1) := by decide +kernel
theorem dX12_statement_296 : decode cX12_statement 296 = .ok (.getfield 246, 3) := by decide +kernel
theorem dX12_statement_299 : decode cX12_statement 299 = .ok (.ifCond .ne 21, 3) := by decide +kernel
theorem dX12_statement_302 : decode cX12_statement 302 = .ok (.aload_n 0, 1) := by decide +kernel
theorem dX12_statement_303 : decode cX12_statement 303 = .ok (.aload_n 0, 1) := by decide +kernel
theorem dX12_statement_304 : decode cX12_statement 304 = .ok (.getfield 353, 3) := by decide +kernel
theorem dX12_statement_307 : decode cX12_statement 307 = .ok (.invokevirtual 213, 3) := by decide +kernel
theorem dX12_statement_310 : decode cX12_statement 310 = .ok (.ifCond .eq 10, 3) := by decide +kernel
theorem dX12_statement_313 : decode cX12_statement 313 = .ok (.aload_n 0, 1) := by decide +kernel
theorem dX12_statement_314 : decode cX12_statement 314 = .ok (.iload_n 1, 1) := by decide +kernel
theorem dX12_statement_315 : decode cX12_statement 315 = .ok (.invokevirtual 356, 3) := by decide +kernel
theorem dX12_statement_318 : decode cX12_statement 318 = .ok (.iconst 0, 1) := by decide +kernel
theorem dX12_statement_319 : decode cX12_statement 319 = .ok (.ireturn, 1) := by decide +kernel
theorem dX12_statement_320 : decode cX12_statement 320 = .ok (.aload_n 0, 1) := by decide +kernel
theorem dX12_statement_321 : decode cX12_statement 321 = .ok (.aload_n 0, 1) := by decide +kernel
theorem dX12_statement_322 : decode cX12_statement 322 = .ok (.getfield 359, 3) := by decide +kernel
theorem dX12_statement_325 : decode cX12_statement 325 = .ok (.invokevirtual 213, 3) := by decide +kernel
theorem dX12_statement_328 : decode cX12_statement 328 = .ok (.ifCond .eq 10, 3) := by decide +kernel
theorem dX12_statement_331 : decode cX12_statement 331 = .ok (.aload_n 0, 1) := by decide +kernel
theorem dX12_statement_332 : decode cX12_statement 332 = .ok (.invokevirtual 362, 3) := by decide +kernel
theorem dX12_statement_335 : decode cX12_statement 335 = .ok (.goto 12, 3) := by decide +kernel
theorem dX12_statement_338 : decode cX12_statement 338 = .ok (.aload_n 0, 1) := by decide +kernel
theorem dX12_statement_339 : decode cX12_statement 339 = .ok (.iconst 1, 1) := by decide +kernel
theorem dX12_statement_340 : decode cX12_statement 340 = .ok (.aload_n 0, 1) := by decide +kernel
theorem dX12_statement_341 : decode cX12_statement 341 = .ok (.getfield 198, 3) := by decide +kernel
theorem dX12_statement_344 : decode cX12_statement 344 = .ok (.invokevirtual 217, 3) := by decide +kernel
theorem dX12_statement_347 : decode cX12_statement 347 = .ok (.iconst 1, 1) := by decide +kernel
theorem dX12_statement_348 : decode cX12_statement 348 = .ok (.ireturn, 1) := by decide +kernel
theorem dX12_reads_0 : decode cX12_reads 0 = .ok (.aload_n 0, 1) := by decide +kernel
theorem dX12_reads_1 : decode cX12_reads 1 = .ok (.iconst 0, 1) := by decide +kernel
theorem dX12_reads_2 : decode cX12_reads 2 = .ok (.putfield 234, 3) := by decide +kernel
theorem dX12_reads_5 : decode cX12_reads 5 = .ok (.aload_n 0, 1) := by decide +kernel
theorem dX12_reads_6 : decode cX12_reads 6 = .ok (.iconst 0, 1) := by decide +kernel
theorem dX12_reads_7 : decode cX12_reads 7 = .ok (.putfield 271, 3) := by decide +kernel
theorem dX12_reads_10 : decode cX12_reads 10 = .ok (.aload_n 0, 1) := by decide +kernel
theorem dX12_reads_11 : decode cX12_reads 11 = .ok (.iconst 0, 1) := by decide +kernel
theorem dX12_reads_12 : decode cX12_reads 12 = .ok (.putfield 246, 3) := by decide +kernel
theorem dX12_reads_15 : decode cX12_reads 15 = .ok (.aload_n 0, 1) := by decide +kernel
theorem dX12_reads_16 : decode cX12_reads 16 = .ok (.getfield 243, 3) := by decide +kernel
theorem dX12_reads_19 : decode cX12_reads 19 = .ok (.iconst 0, 1) := by decide +kernel
theorem dX12_reads_20 : decode cX12_reads 20 = .ok (.iconst 0, 1) := by decide +kernel
theorem dX12_reads_21 : decode cX12_reads 21 = .ok (.iastore, 1) := by decide +kernel
theorem dX12_reads_22 : decode cX12_reads 22 = .ok (.aload_n 0, 1) := by decide +kernel
theorem dX12_reads_23 : decode cX12_reads 23 = .ok (.getfield 261, 3) := by decide +kernel
theorem dX12_reads_26 : decode cX12_reads 26 = .ok (.iconst 0, 1) := by decide +kernel
theorem dX12_reads_27 : decode cX12_reads 27 = .ok (.iconst (-1), 1) := by decide +kernel
theorem dX12_reads_28 : decode cX12_reads 28 = .ok (.iastore, 1) := by decide +kernel
theorem dX12_reads_29 : decode cX12_reads 29 = .ok (.aload_n 0, 1) := by decide +kernel
theorem dX12_reads_30 : decode cX12_reads 30 = .ok (.getfield 264, 3) := by decide +kernel
theorem dX12_reads_33 : decode cX12_reads 33 = .ok (.iconst 0, 1) := by decide +kernel
theorem dX12_reads_34 : decode cX12_reads 34 = .ok (.iconst (-1), 1) := by decide +kernel
theorem dX12_reads_35 : decode cX12_reads 35 = .ok (.iastore, 1) := by decide +kernel
theorem dX12_reads_36 : decode cX12_reads 36 = .ok (.iconst 1, 1) := by decide +kernel
theorem dX12_reads_37 : decode cX12_reads 37 = .ok (.istore_n 1, 1) := by decide +kernel
theorem dX12_reads_38 : decode cX12_reads 38 = .ok (.iload_n 1, 1) := by decide +kernel
theorem dX12_reads_39 : decode cX12_reads 39 = .ok (.ifCond .eq 117, 3) := by decide +kernel
theorem dX12_reads_42 : decode cX12_reads 42 = .ok (.aload_n 0, 1) := by decide +kernel
theorem dX12_reads_43 : decode cX12_reads 43 = .ok (.getfield 192, 3) := by decide +kernel
theorem dX12_reads_46 : decode cX12_reads 46 = .ok (.ifCond .ne 110, 3) := by decide +kernel
theorem dX12_reads_49 : decode cX12_reads 49 = .ok (.aload_n 0, 1) := by decide +kernel
theorem dX12_reads_50 : decode cX12_reads 50 = .ok (.invokevirtual 204, 3) := by decide +kernel
theorem dX12_reads_53 : decode cX12_reads 53 = .ok (.istore_n 2, 1) := by decide +kernel
theorem dX12_reads_54 : decode cX12_reads 54 = .ok (.iload_n 2, 1) := by decide +kernel
theorem dX12_reads_55 : decode cX12_reads 55 = .ok (.bipush 93, 2) := by decide +kernel
theorem dX12_reads_57 : decode cX12_reads 57 = .ok (.if_icmp .ne 33, 3) := by decide +kernel
theorem dX12_reads_60 : decode cX12_reads 60 = .ok (.aload_n 0, 1) := by decide +kernel
theorem dX12_reads_61 : decode cX12_reads 61 = .ok (.getfield 246, 3) := by decide +kernel
theorem dX12_reads_64 : decode cX12_reads 64 = .ok (.ifCond .le 26, 3) := by decide +kernel
theorem dX12_reads_67 : decode cX12_reads 67 = .ok (.aload_n 0, 1) := by decide +kernel
theorem dX12_reads_68 : decode cX12_reads 68 = .ok (.dup, 1) := by decide +kernel
theorem dX12_reads_69 : decode cX12_reads 69 = .ok (.getfield 198, 3) := by decide +kernel
theorem dX12_reads_72 : decode cX12_reads 72 = .ok (.iconst 1, 1) := by decide +kernel
theorem dX12_reads_73 : decode cX12_reads 73 = .ok (.iadd, 1) := by decide +kernel
theorem dX12_reads_74 : decode cX12_reads 74 = .ok (.putfield 198, 3) := by decide +kernel
theorem dX12_reads_77 : decode cX12_reads 77 = .ok (.aload_n 0, 1) := by decide +kernel
theorem dX12_reads_78 : decode cX12_reads 78 = .ok (.invokevirtual 366, 3) := by decide +kernel
theorem dX12_reads_81 : decode cX12_reads 81 = .ok (.aload_n 0, 1) := by decide +kernel
theorem dX12_reads_82 : decode cX12_reads 82 = .ok (.bipush 59, 2) := by decide +kernel
theorem dX12_reads_84 : decode cX12_reads 84 = .ok (.invokevirtual 250, 3) := by decide +kernel
theorem dX12_reads_87 : decode cX12_reads 87 = .ok (.goto 66, 3) := by decide +kernel
theorem dX12_reads_90 : decode cX12_reads 90 = .ok (.iload_n 2, 1) := by decide +kernel
theorem dX12_reads_91 : decode cX12_reads 91 = .ok (.iconst (-1), 1) := by decide +kernel
theorem dX12_reads_92 : decode cX12_reads 92 = .ok (.if_icmp .ne 48, 3) := by decide +kernel
theorem dX12_reads_95 : decode cX12_reads 95 = .ok (.iconst 0, 1) := by decide +kernel
theorem dX12_reads_96 : decode cX12_reads 96 = .ok (.istore_n 1, 1) := by decide +kernel
theorem dX12_reads_97 : decode cX12_reads 97 = .ok (.aload_n 0, 1) := by decide +kernel
theorem dX12_reads_98 : decode cX12_reads 98 = .ok (.getfield 246, 3) := by decide +kernel
theorem dX12_reads_101 : decode cX12_reads 101 = .ok (.ifCond .le 15, 3) := by decide +kernel
theorem dX12_reads_104 : decode cX12_reads 104 = .ok (.aload_n 0, 1) := by decide +kernel
theorem dX12_reads_105 : decode cX12_reads 105 = .ok (.iconst 1, 1) := by decide +kernel
theorem dX12_reads_106 : decode cX12_reads 106 = .ok (.aload_n 0, 1) := by decide +kernel
theorem dX12_reads_107 : decode cX12_reads 107 = .ok (.getfield 198, 3) := by decide +kernel
theorem dX12_reads_110 : decode cX12_reads 110 = .ok (.invokevirtual 217, 3) := by decide +kernel
theorem dX12_reads_113 : decode cX12_reads 113 = .ok (.goto 40, 3) := by decide +kernel
theorem dX12_reads_116 : decode cX12_reads 116 = .ok (.aload_n 0, 1) := by decide +kernel
theorem dX12_reads_117 : decode cX12_reads 117 = .ok (.getfield 243, 3) := by decide +kernel
theorem dX12_reads_120 : decode cX12_reads 120 = .ok (.iconst 0, 1) := by decide +kernel
theorem dX12_reads_121 : decode cX12_reads 121 = .ok (.iaload, 1) := by decide +kernel
theorem dX12_reads_122 : decode cX12_reads 122 = .ok (.sipush 240, 3) := by decide +kernel
theorem dX12_reads_125 : decode cX12_reads 125 = .ok (.if_icmp .le 28, 3) := by decide +kernel
theorem dX12_reads_128 : decode cX12_reads 128 = .ok (.aload_n 0, 1) := by decide +kernel
theorem dX12_reads_129 : decode cX12_reads 129 = .ok (.iconst 5, 1) := by decide +kernel
theorem dX12_reads_130 : decode cX12_reads 130 = .ok (.aload_n 0, 1) := by decide +kernel
theorem dX12_reads_131 : decode cX12_reads 131 = .ok (.getfield 198, 3) := by decide +kernel
theorem dX12_reads_134 : decode cX12_reads 134 = .ok (.invokevirtual 217, 3) := by decide +kernel
theorem dX12_reads_137 : decode cX12_reads 137 = .ok (.goto 16, 3) := by decide +kernel
theorem dX12_reads_140 : decode cX12_reads 140 = .ok (.aload_n 0, 1) := by decide +kernel
theorem dX12_reads_141 : decode cX12_reads 141 = .ok (.invokevirtual 369, 3) := by decide +kernel
theorem dX12_reads_144 : decode cX12_reads 144 = .ok (.ifCond .eq 9, 3) := by decide +kernel
theorem dX12_reads_147 : decode cX12_reads 147 = .ok (.aload_n 0, 1) := by decide +kernel
theorem dX12_reads_148 : decode cX12_reads 148 = .ok (.bipush 59, 2) := by decide +kernel
theorem dX12_reads_150 : decode cX12_reads 150 = .ok (.invokevirtual 250, 3) := by decide +kernel
theorem dX12_reads_153 : decode cX12_reads 153 = .ok (.goto (-115), 3) := by decide +kernel
theorem dX12_reads_156 : decode cX12_reads 156 = .ok (.return_, 1) := by decide +kernel
theorem dX12_init_0_grp : (decode cX12_init 0 = .ok (.aload_n 0, 1)) ∧ (decode cX12_init 1 = .ok (.invokespecial 373, 3)) ∧ (decode cX12_init 4 = .ok (.aload_n 0, 1)) ∧ (decode cX12_init 5 = .ok (.bipush (-50), 2)) ∧ (decode cX12_init 7 = .ok (.putfield 15, 3)) ∧ (decode cX12_init 10 = .ok (.aload_n 0, 1)) ∧ (decode cX12_init 11 = .ok (.iconst 0, 1)) ∧ (decode cX12_init 12 = .ok (.putfield 19, 3)) ∧ (decode cX12_init 15 = .ok (.aload_n 0, 1)) := by decide +kernel
theorem dX12_init_0 : decode cX12_init 0 = .ok (.aload_n 0, 1) := dX12_init_0_grp.1
theorem dX12_init_1 : decode cX12_init 1 = .ok (.invokespecial 373, 3) := dX12_init_0_grp.2.1
theorem dX12_init_4 : decode cX12_init 4 = .ok (.aload_n 0, 1) := dX12_init_0_grp.2.2.1
theorem dX12_init_5 : decode cX12_init 5 = .ok (.bipush (-50), 2) := dX12_init_0_grp.2.2.2.1
theorem dX12_init_7 : decode cX12_init 7 = .ok (.putfield 15, 3) := dX12_init_0_grp.2.2.2.2.1
theorem dX12_init_10 : decode cX12_init 10 = .ok (.aload_n 0, 1) := dX12_init_0_grp.2.2.2.2.2.1
theorem dX12_init_11 : decode cX12_init 11 = .ok (.iconst 0, 1) := dX12_init_0_grp.2.2.2.2.2.2.1
theorem dX12_init_12 : decode cX12_init 12 = .ok (.putfield 19, 3) := dX12_init_0_grp.2.2.2.2.2.2.2.1
theorem dX12_init_15 : decode cX12_init 15 = .ok (.aload_n 0, 1) := dX12_init_0_grp.2.2.2.2.2.2.2.2
theorem dX12_init_16_grp : (decode cX12_init 16 = .ok (.bipush 50, 2)) ∧ (decode cX12_init 18 = .ok (.putfield 22, 3)) ∧ (decode cX12_init 21 = .ok (.aload_n 0, 1)) ∧ (decode cX12_init 22 = .ok (.bipush 80, 2)) ∧ (decode cX12_init 24 = .ok (.putfield 25, 3)) ∧ (decode cX12_init 27 = .ok (.aload_n 0, 1)) ∧ (decode cX12_init 28 = .ok (.bipush (-60), 2)) ∧ (decode cX12_init 30 = .ok (.putfield 28, 3)) ∧ (decode cX12_init 33 = .ok (.aload_n 0, 1)) := by decide +kernel
theorem dX12_init_16 : decode cX12_init 16 = .ok (.bipush 50, 2) := dX12_init_16_grp.1
theorem dX12_init_18 : decode cX12_init 18 = .ok (.putfield 22, 3) := dX12_init_16_grp.2.1
theorem dX12_init_21 : decode cX12_init 21 = .ok (.aload_n 0, 1) := dX12_init_16_grp.2.2.1
theorem dX12_init_22 : decode cX12_init 22 = .ok (.bipush 80, 2) := dX12_init_16_grp.2.2.2.1
theorem dX12_init_24 : decode cX12_init 24 = .ok (.putfield 25, 3) := dX12_init_16_grp.2.2.2.2.1
theorem dX12_init_27 : decode cX12_init 27 = .ok (.aload_n 0, 1) := dX12_init_16_grp.2.2.2.2.2.1
theorem dX12_init_28 : decode cX12_init 28 = .ok (.bipush (-60), 2) := dX12_init_16_grp.2.2.2.2.2.2.1
theorem dX12_init_30 : decode cX12_init 30 = .ok (.putfield 28, 3) := dX12_init_16_grp.2.2.2.2.2.2.2.1
theorem dX12_init_33 : decode cX12_init 33 = .ok (.aload_n 0, 1) := dX12_init_16_grp.2.2.2.2.2.2.2.2
theorem dX12_init_34_grp : (decode cX12_init 34 = .ok (.bipush (-40), 2)) ∧ (decode cX12_init 36 = .ok (.putfield 31, 3)) ∧ (decode cX12_init 39 = .ok (.aload_n 0, 1)) ∧ (decode cX12_init 40 = .ok (.bipush 60, 2)) ∧ (decode cX12_init 42 = .ok (.putfield 34, 3)) ∧ (decode cX12_init 45 = .ok (.aload_n 0, 1)) ∧ (decode cX12_init 46 = .ok (.bipush (-40), 2)) ∧ (decode cX12_init 48 = .ok (.putfield 37, 3)) ∧ (decode cX12_init 51 = .ok (.aload_n 0, 1)) := by decide +kernel
theorem dX12_init_34 : decode cX12_init 34 = .ok (.bipush (-40), 2) := dX12_init_34_grp.1
theorem dX12_init_36 : decode cX12_init 36 = .ok (.putfield 31, 3) := dX12_init_34_grp.2.1
theorem dX12_init_39 : decode cX12_init 39 = .ok (.aload_n 0, 1) := dX12_init_34_grp.2.2.1
theorem dX12_init_40 : decode cX12_init 40 = .ok (.bipush 60, 2) := dX12_init_34_grp.2.2.2.1
theorem dX12_init_42 : decode cX12_init 42 = .ok (.putfield 34, 3) := dX12_init_34_grp.2.2.2.2.1
theorem dX12_init_45 : decode cX12_init 45 = .ok (.aload_n 0, 1) := dX12_init_34_grp.2.2.2.2.2.1
theorem dX12_init_46 : decode cX12_init 46 = .ok (.bipush (-40), 2) := dX12_init_34_grp.2.2.2.2.2.2.1
theorem dX12_init_48 : decode cX12_init 48 = .ok (.putfield 37, 3) := dX12_init_34_grp.2.2.2.2.2.2.2.1
theorem dX12_init_51 : decode cX12_init 51 = .ok (.aload_n 0, 1) := dX12_init_34_grp.2.2.2.2.2.2.2.2
theorem dX12_init_52_grp : (decode cX12_init 52 = .ok (.iconst 4, 1)) ∧ (decode cX12_init 53 = .ok (.putfield 43, 3)) ∧ (decode cX12_init 56 = .ok (.aload_n 0, 1)) ∧ (decode cX12_init 57 = .ok (.bipush 8, 2)) ∧ (decode cX12_init 59 = .ok (.newarray .boolean, 2)) ∧ (decode cX12_init 61 = .ok (.putfield 49, 3)) ∧ (decode cX12_init 64 = .ok (.aload_n 0, 1)) ∧ (decode cX12_init 65 = .ok (.bipush 8, 2)) ∧ (decode cX12_init 67 = .ok (.newarray .int, 2)) := by decide +kernel
theorem dX12_init_52 : decode cX12_init 52 = .ok (.iconst 4, 1) := dX12_init_52_grp.1
theorem dX12_init_53 : decode cX12_init 53 = .ok (.putfield 43, 3) := dX12_init_52_grp.2.1
theorem dX12_init_56 : decode cX12_init 56 = .ok (.aload_n 0, 1) := dX12_init_52_grp.2.2.1
theorem dX12_init_57 : decode cX12_init 57 = .ok (.bipush 8, 2) := dX12_init_52_grp.2.2.2.1
theorem dX12_init_59 : decode cX12_init 59 = .ok (.newarray .boolean, 2) := dX12_init_52_grp.2.2.2.2.1
theorem dX12_init_61 : decode cX12_init 61 = .ok (.putfield 49, 3) := dX12_init_52_grp.2.2.2.2.2.1
theorem dX12_init_64 : decode cX12_init 64 = .ok (.aload_n 0, 1) := dX12_init_52_grp.2.2.2.2.2.2.1
theorem dX12_init_65 : decode cX12_init 65 = .ok (.bipush 8, 2) := dX12_init_52_grp.2.2.2.2.2.2.2.1
theorem dX12_init_67 : decode cX12_init 67 = .ok (.newarray .int, 2) := dX12_init_52_grp.2.2.2.2.2.2.2.2
theorem dX12_init_69_grp : (decode cX12_init 69 = .ok (.putfield 53, 3)) ∧ (decode cX12_init 72 = .ok (.aload_n 0, 1)) ∧ (decode cX12_init 73 = .ok (.bipush 8, 2)) ∧ (decode cX12_init 75 = .ok (.newarray .int, 2)) ∧ (decode cX12_init 77 = .ok (.putfield 57, 3)) ∧ (decode cX12_init 80 = .ok (.aload_n 0, 1)) ∧ (decode cX12_init 81 = .ok (.bipush 12, 2)) ∧ (decode cX12_init 83 = .ok (.newarray .boolean, 2)) ∧ (decode cX12_init 85 = .ok (.putfield 60, 3)) := by decide +kernel
theorem dX12_init_69 : decode cX12_init 69 = .ok (.putfield 53, 3) := dX12_init_69_grp.1
theorem dX12_init_72 : decode cX12_init 72 = .ok (.aload_n 0, 1) := dX12_init_69_grp.2.1
theorem dX12_init_73 : decode cX12_init 73 = .ok (.bipush 8, 2) := dX12_init_69_grp.2.2.1
theorem dX12_init_75 : decode cX12_init 75 = .ok (.newarray .int, 2) := dX12_init_69_grp.2.2.2.1
theorem dX12_init_77 : decode cX12_init 77 = .ok (.putfield 57, 3) := dX12_init_69_grp.2.2.2.2.1
theorem dX12_init_80 : decode cX12_init 80 = .ok (.aload_n 0, 1) := dX12_init_69_grp.2.2.2.2.2.1
theorem dX12_init_81 : decode cX12_init 81 = .ok (.bipush 12, 2) := dX12_init_69_grp.2.2.2.2.2.2.1
theorem dX12_init_83 : decode cX12_init 83 = .ok (.newarray .boolean, 2) := dX12_init_69_grp.2.2.2.2.2.2.2.1
theorem dX12_init_85 : decode cX12_init 85 = .ok (.putfield 60, 3) := dX12_init_69_grp.2.2.2.2.2.2.2.2
theorem dX12_init_88_grp : (decode cX12_init 88 = .ok (.aload_n 0, 1)) ∧ (decode cX12_init 89 = .ok (.bipush 12, 2)) ∧ (decode cX12_init 91 = .ok (.newarray .int, 2)) ∧ (decode cX12_init 93 = .ok (.putfield 63, 3)) ∧ (decode cX12_init 96 = .ok (.aload_n 0, 1)) ∧ (decode cX12_init 97 = .ok (.bipush 12, 2)) ∧ (decode cX12_init 99 = .ok (.newarray .int, 2)) ∧ (decode cX12_init 101 = .ok (.putfield 66, 3)) ∧ (decode cX12_init 104 = .ok (.aload_n 0, 1)) := by decide +kernel
theorem dX12_init_88 : decode cX12_init 88 = .ok (.aload_n 0, 1) := dX12_init_88_grp.1
theorem dX12_init_89 : decode cX12_init 89 = .ok (.bipush 12, 2) := dX12_init_88_grp.2.1
theorem dX12_init_91 : decode cX12_init 91 = .ok (.newarray .int, 2) := dX12_init_88_grp.2.2.1
theorem dX12_init_93 : decode cX12_init 93 = .ok (.putfield 63, 3) := dX12_init_88_grp.2.2.2.1
theorem dX12_init_96 : decode cX12_init 96 = .ok (.aload_n 0, 1) := dX12_init_88_grp.2.2.2.2.1
theorem dX12_init_97 : decode cX12_init 97 = .ok (.bipush 12, 2) := dX12_init_88_grp.2.2.2.2.2.1
theorem dX12_init_99 : decode cX12_init 99 = .ok (.newarray .int, 2) := dX12_init_88_grp.2.2.2.2.2.2.1
theorem dX12_init_101 : decode cX12_init 101 = .ok (.putfield 66, 3) := dX12_init_88_grp.2.2.2.2.2.2.2.1
theorem dX12_init_104 : decode cX12_init 104 = .ok (.aload_n 0, 1) := dX12_init_88_grp.2.2.2.2.2.2.2.2
theorem dX12_init_105_grp : (decode cX12_init 105 = .ok (.bipush 12, 2)) ∧ (decode cX12_init 107 = .ok (.newarray .int, 2)) ∧ (decode cX12_init 109 = .ok (.putfield 69, 3)) ∧ (decode cX12_init 112 = .ok (.aload_n 0, 1)) ∧ (decode cX12_init 113 = .ok (.bipush 12, 2)) ∧ (decode cX12_init 115 = .ok (.newarray .int, 2)) ∧ (decode cX12_init 117 = .ok (.putfield 72, 3)) ∧ (decode cX12_init 120 = .ok (.aload_n 0, 1)) ∧ (decode cX12_init 121 = .ok (.bipush 12, 2)) := by decide +kernel
theorem dX12_init_105 : decode cX12_init 105 = .ok (.bipush 12, 2) := dX12_init_105_grp.1
theorem dX12_init_107 : decode cX12_init 107 = .ok (.newarray .int, 2) := dX12_init_105_grp.2.1
theorem dX12_init_109 : decode cX12_init 109 = .ok (.putfield 69, 3) := dX12_init_105_grp.2.2.1
theorem dX12_init_112 : decode cX12_init 112 = .ok (.aload_n 0, 1) := dX12_init_105_grp.2.2.2.1
theorem dX12_init_113 : decode cX12_init 113 = .ok (.bipush 12, 2) := dX12_init_105_grp.2.2.2.2.1
theorem dX12_init_115 : decode cX12_init 115 = .ok (.newarray .int, 2) := dX12_init_105_grp.2.2.2.2.2.1
theorem dX12_init_117 : decode cX12_init 117 = .ok (.putfield 72, 3) := dX12_init_105_grp.2.2.2.2.2.2.1
theorem dX12_init_120 : decode cX12_init 120 = .ok (.aload_n 0, 1) := dX12_init_105_grp.2.2.2.2.2.2.2.1
theorem dX12_init_121 : decode cX12_init 121 = .ok (.bipush 12, 2) := dX12_init_105_grp.2.2.2.2.2.2.2.2
theorem dX12_init_123_grp : (decode cX12_init 123 = .ok (.newarray .boolean, 2)) ∧ (decode cX12_init 125 = .ok (.putfield 75, 3)) ∧ (decode cX12_init 128 = .ok (.aload_n 0, 1)) ∧ (decode cX12_init 129 = .ok (.bipush 8, 2)) ∧ (decode cX12_init 131 = .ok (.newarray .boolean, 2)) ∧ (decode cX12_init 133 = .ok (.putfield 78, 3)) ∧ (decode cX12_init 136 = .ok (.aload_n 0, 1)) ∧ (decode cX12_init 137 = .ok (.bipush 8, 2)) ∧ (decode cX12_init 139 = .ok (.newarray .int, 2)) := by decide +kernel
theorem dX12_init_123 : decode cX12_init 123 = .ok (.newarray .boolean, 2) := dX12_init_123_grp.1
theorem dX12_init_125 : decode cX12_init 125 = .ok (.putfield 75, 3) := dX12_init_123_grp.2.1
theorem dX12_init_128 : decode cX12_init 128 = .ok (.aload_n 0, 1) := dX12_init_123_grp.2.2.1
theorem dX12_init_129 : decode cX12_init 129 = .ok (.bipush 8, 2) := dX12_init_123_grp.2.2.2.1
theorem dX12_init_131 : decode cX12_init 131 = .ok (.newarray .boolean, 2) := dX12_init_123_grp.2.2.2.2.1
theorem dX12_init_133 : decode cX12_init 133 = .ok (.putfield 78, 3) := dX12_init_123_grp.2.2.2.2.2.1
theorem dX12_init_136 : decode cX12_init 136 = .ok (.aload_n 0, 1) := dX12_init_123_grp.2.2.2.2.2.2.1
theorem dX12_init_137 : decode cX12_init 137 = .ok (.bipush 8, 2) := dX12_init_123_grp.2.2.2.2.2.2.2.1
theorem dX12_init_139 : decode cX12_init 139 = .ok (.newarray .int, 2) := dX12_init_123_grp.2.2.2.2.2.2.2.2
theorem dX12_init_141_grp : (decode cX12_init 141 = .ok (.putfield 81, 3)) ∧ (decode cX12_init 144 = .ok (.aload_n 0, 1)) ∧ (decode cX12_init 145 = .ok (.bipush 8, 2)) ∧ (decode cX12_init 147 = .ok (.newarray .int, 2)) ∧ (decode cX12_init 149 = .ok (.putfield 84, 3)) ∧ (decode cX12_init 152 = .ok (.aload_n 0, 1)) ∧ (decode cX12_init 153 = .ok (.bipush 8, 2)) ∧ (decode cX12_init 155 = .ok (.newarray .int, 2)) ∧ (decode cX12_init 157 = .ok (.putfield 87, 3)) := by decide +kernel
theorem dX12_init_141 : decode cX12_init 141 = .ok (.putfield 81, 3) := dX12_init_141_grp.1
theorem dX12_init_144 : decode cX12_init 144 = .ok (.aload_n 0, 1) := dX12_init_141_grp.2.1
theorem dX12_init_145 : decode cX12_init 145 = .ok (.bipush 8, 2) := dX12_init_141_grp.2.2.1
theorem dX12_init_147 : decode cX12_init 147 = .ok (.newarray .int, 2) := dX12_init_141_grp.2.2.2.1
theorem dX12_init_149 : decode cX12_init 149 = .ok (.putfield 84, 3) := dX12_init_141_grp.2.2.2.2.1
theorem dX12_init_152 : decode cX12_init 152 = .ok (.aload_n 0, 1) := dX12_init_141_grp.2.2.2.2.2.1
theorem dX12_init_153 : decode cX12_init 153 = .ok (.bipush 8, 2) := dX12_init_141_grp.2.2.2.2.2.2.1
theorem dX12_init_155 : decode cX12_init 155 = .ok (.newarray .int, 2) := dX12_init_141_grp.2.2.2.2.2.2.2.1
theorem dX12_init_157 : decode cX12_init 157 = .ok (.putfield 87, 3) := dX12_init_141_grp.2.2.2.2.2.2.2.2
theorem dX12_init_160_grp : (decode cX12_init 160 = .ok (.aload_n 0, 1)) ∧ (decode cX12_init 161 = .ok (.bipush 8, 2)) ∧ (decode cX12_init 163 = .ok (.newarray .int, 2)) ∧ (decode cX12_init 165 = .ok (.putfield 90, 3)) ∧ (decode cX12_init 168 = .ok (.aload_n 0, 1)) ∧ (decode cX12_init 169 = .ok (.sipush 600, 3)) ∧ (decode cX12_init 172 = .ok (.newarray .int, 2)) ∧ (decode cX12_init 174 = .ok (.putfield 189, 3)) ∧ (decode cX12_init 177 = .ok (.aload_n 0, 1)) := by decide +kernel
theorem dX12_init_160 : decode cX12_init 160 = .ok (.aload_n 0, 1) := dX12_init_160_grp.1
theorem dX12_init_161 : decode cX12_init 161 = .ok (.bipush 8, 2) := dX12_init_160_grp.2.1
theorem dX12_init_163 : decode cX12_init 163 = .ok (.newarray .int, 2) := dX12_init_160_grp.2.2.1
theorem dX12_init_165 : decode cX12_init 165 = .ok (.putfield 90, 3) := dX12_init_160_grp.2.2.2.1
theorem dX12_init_168 : decode cX12_init 168 = .ok (.aload_n 0, 1) := dX12_init_160_grp.2.2.2.2.1
theorem dX12_init_169 : decode cX12_init 169 = .ok (.sipush 600, 3) := dX12_init_160_grp.2.2.2.2.2.1
theorem dX12_init_172 : decode cX12_init 172 = .ok (.newarray .int, 2) := dX12_init_160_grp.2.2.2.2.2.2.1
theorem dX12_init_174 : decode cX12_init 174 = .ok (.putfield 189, 3) := dX12_init_160_grp.2.2.2.2.2.2.2.1
theorem dX12_init_177 : decode cX12_init 177 = .ok (.aload_n 0, 1) := dX12_init_160_grp.2.2.2.2.2.2.2.2
theorem dX12_init_178_grp : (decode cX12_init 178 = .ok (.iconst (-1), 1)) ∧ (decode cX12_init 179 = .ok (.putfield 378, 3)) ∧ (decode cX12_init 182 = .ok (.aload_n 0, 1)) ∧ (decode cX12_init 183 = .ok (.iconst 2, 1)) ∧ (decode cX12_init 184 = .ok (.newarray .char, 2)) ∧ (decode cX12_init 186 = .ok (.dup, 1)) ∧ (decode cX12_init 187 = .ok (.iconst 0, 1)) ∧ (decode cX12_init 188 = .ok (.bipush 97, 2)) ∧ (decode cX12_init 190 = .ok (.castore, 1)) := by decide +kernel
theorem dX12_init_178 : decode cX12_init 178 = .ok (.iconst (-1), 1) := dX12_init_178_grp.1
theorem dX12_init_179 : decode cX12_init 179 = .ok (.putfield 378, 3) := dX12_init_178_grp.2.1
theorem dX12_init_182 : decode cX12_init 182 = .ok (.aload_n 0, 1) := dX12_init_178_grp.2.2.1
theorem dX12_init_183 : decode cX12_init 183 = .ok (.iconst 2, 1) := dX12_init_178_grp.2.2.2.1
theorem dX12_init_184 : decode cX12_init 184 = .ok (.newarray .char, 2) := dX12_init_178_grp.2.2.2.2.1
theorem dX12_init_186 : decode cX12_init 186 = .ok (.dup, 1) := dX12_init_178_grp.2.2.2.2.2.1
theorem dX12_init_187 : decode cX12_init 187 = .ok (.iconst 0, 1) := dX12_init_178_grp.2.2.2.2.2.2.1
theorem dX12_init_188 : decode cX12_init 188 = .ok (.bipush 97, 2) := dX12_init_178_grp.2.2.2.2.2.2.2.1
theorem dX12_init_190 : decode cX12_init 190 = .ok (.castore, 1) := dX12_init_178_grp.2.2.2.2.2.2.2.2
theorem dX12_init_191_grp : (decode cX12_init 191 = .ok (.dup, 1)) ∧ (decode cX12_init 192 = .ok (.iconst 1, 1)) ∧ (decode cX12_init 193 = .ok (.bipush 116, 2)) ∧ (decode cX12_init 195 = .ok (.castore, 1)) ∧ (decode cX12_init 196 = .ok (.putfield 314, 3)) ∧ (decode cX12_init 199 = .ok (.aload_n 0, 1)) ∧ (decode cX12_init 200 = .ok (.iconst 2, 1)) ∧ (decode cX12_init 201 = .ok (.newarray .char, 2)) ∧ (decode cX12_init 203 = .ok (.dup, 1)) := by decide +kernel
theorem dX12_init_191 : decode cX12_init 191 = .ok (.dup, 1) := dX12_init_191_grp.1
theorem dX12_init_192 : decode cX12_init 192 = .ok (.iconst 1, 1) := dX12_init_191_grp.2.1
theorem dX12_init_193 : decode cX12_init 193 = .ok (.bipush 116, 2) := dX12_init_191_grp.2.2.1
theorem dX12_init_195 : decode cX12_init 195 = .ok (.castore, 1) := dX12_init_191_grp.2.2.2.1
theorem dX12_init_196 : decode cX12_init 196 = .ok (.putfield 314, 3) := dX12_init_191_grp.2.2.2.2.1
theorem dX12_init_199 : decode cX12_init 199 = .ok (.aload_n 0, 1) := dX12_init_191_grp.2.2.2.2.2.1
theorem dX12_init_200 : decode cX12_init 200 = .ok (.iconst 2, 1) := dX12_init_191_grp.2.2.2.2.2.2.1
theorem dX12_init_201 : decode cX12_init 201 = .ok (.newarray .char, 2) := dX12_init_191_grp.2.2.2.2.2.2.2.1
theorem dX12_init_203 : decode cX12_init 203 = .ok (.dup, 1) := dX12_init_191_grp.2.2.2.2.2.2.2.2
theorem dX12_init_204_grp : (decode cX12_init 204 = .ok (.iconst 0, 1)) ∧ (decode cX12_init 205 = .ok (.bipush 103, 2)) ∧ (decode cX12_init 207 = .ok (.castore, 1)) ∧ (decode cX12_init 208 = .ok (.dup, 1)) ∧ (decode cX12_init 209 = .ok (.iconst 1, 1)) ∧ (decode cX12_init 210 = .ok (.bipush 111, 2)) ∧ (decode cX12_init 212 = .ok (.castore, 1)) ∧ (decode cX12_init 213 = .ok (.putfield 322, 3)) ∧ (decode cX12_init 216 = .ok (.aload_n 0, 1)) := by decide +kernel
theorem dX12_init_204 : decode cX12_init 204 = .ok (.iconst 0, 1) := dX12_init_204_grp.1
theorem dX12_init_205 : decode cX12_init 205 = .ok (.bipush 103, 2) := dX12_init_204_grp.2.1
theorem dX12_init_207 : decode cX12_init 207 = .ok (.castore, 1) := dX12_init_204_grp.2.2.1
theorem dX12_init_208 : decode cX12_init 208 = .ok (.dup, 1) := dX12_init_204_grp.2.2.2.1
theorem dX12_init_209 : decode cX12_init 209 = .ok (.iconst 1, 1) := dX12_init_204_grp.2.2.2.2.1
theorem dX12_init_210 : decode cX12_init 210 = .ok (.bipush 111, 2) := dX12_init_204_grp.2.2.2.2.2.1
theorem dX12_init_212 : decode cX12_init 212 = .ok (.castore, 1) := dX12_init_204_grp.2.2.2.2.2.2.1
theorem dX12_init_213 : decode cX12_init 213 = .ok (.putfield 322, 3) := dX12_init_204_grp.2.2.2.2.2.2.2.1
theorem dX12_init_216 : decode cX12_init 216 = .ok (.aload_n 0, 1) := dX12_init_204_grp.2.2.2.2.2.2.2.2
theorem dX12_init_217_grp : (decode cX12_init 217 = .ok (.iconst 2, 1)) ∧ (decode cX12_init 218 = .ok (.newarray .char, 2)) ∧ (decode cX12_init 220 = .ok (.dup, 1)) ∧ (decode cX12_init 221 = .ok (.iconst 0, 1)) ∧ (decode cX12_init 222 = .ok (.bipush 116, 2)) ∧ (decode cX12_init 224 = .ok (.castore, 1)) ∧ (decode cX12_init 225 = .ok (.dup, 1)) ∧ (decode cX12_init 226 = .ok (.iconst 1, 1)) ∧ (decode cX12_init 227 = .ok (.bipush 111, 2)) := by decide +kernel
theorem dX12_init_217 : decode cX12_init 217 = .ok (.iconst 2, 1) := dX12_init_217_grp.1
theorem dX12_init_218 : decode cX12_init 218 = .ok (.newarray .char, 2) := dX12_init_217_grp.2.1
theorem dX12_init_220 : decode cX12_init 220 = .ok (.dup, 1) := dX12_init_217_grp.2.2.1
theorem dX12_init_221 : decode cX12_init 221 = .ok (.iconst 0, 1) := dX12_init_217_grp.2.2.2.1
theorem dX12_init_222 : decode cX12_init 222 = .ok (.bipush 116, 2) := dX12_init_217_grp.2.2.2.2.1
theorem dX12_init_224 : decode cX12_init 224 = .ok (.castore, 1) := dX12_init_217_grp.2.2.2.2.2.1
theorem dX12_init_225 : decode cX12_init 225 = .ok (.dup, 1) := dX12_init_217_grp.2.2.2.2.2.2.1
theorem dX12_init_226 : decode cX12_init 226 = .ok (.iconst 1, 1) := dX12_init_217_grp.2.2.2.2.2.2.2.1
theorem dX12_init_227 : decode cX12_init 227 = .ok (.bipush 111, 2) := dX12_init_217_grp.2.2.2.2.2.2.2.2
theorem dX12_init_229_grp : (decode cX12_init 229 = .ok (.castore, 1)) ∧ (decode cX12_init 230 = .ok (.putfield 325, 3)) ∧ (decode cX12_init 233 = .ok (.aload_n 0, 1)) ∧ (decode cX12_init 234 = .ok (.iconst 2, 1)) ∧ (decode cX12_init 235 = .ok (.newarray .char, 2)) ∧ (decode cX12_init 237 = .ok (.dup, 1)) ∧ (decode cX12_init 238 = .ok (.iconst 0, 1)) ∧ (decode cX12_init 239 = .ok (.bipush 105, 2)) ∧ (decode cX12_init 241 = .ok (.castore, 1)) := by decide +kernel
theorem dX12_init_229 : decode cX12_init 229 = .ok (.castore, 1) := dX12_init_229_grp.1
theorem dX12_init_230 : decode cX12_init 230 = .ok (.putfield 325, 3) := dX12_init_229_grp.2.1
theorem dX12_init_233 : decode cX12_init 233 = .ok (.aload_n 0, 1) := dX12_init_229_grp.2.2.1
theorem dX12_init_234 : decode cX12_init 234 = .ok (.iconst 2, 1) := dX12_init_229_grp.2.2.2.1
theorem dX12_init_235 : decode cX12_init 235 = .ok (.newarray .char, 2) := dX12_init_229_grp.2.2.2.2.1
theorem dX12_init_237 : decode cX12_init 237 = .ok (.dup, 1) := dX12_init_229_grp.2.2.2.2.2.1
theorem dX12_init_238 : decode cX12_init 238 = .ok (.iconst 0, 1) := dX12_init_229_grp.2.2.2.2.2.2.1
theorem dX12_init_239 : decode cX12_init 239 = .ok (.bipush 105, 2) := dX12_init_229_grp.2.2.2.2.2.2.2.1
theorem dX12_init_241 : decode cX12_init 241 = .ok (.castore, 1) := dX12_init_229_grp.2.2.2.2.2.2.2.2
theorem dX12_init_242_grp : (decode cX12_init 242 = .ok (.dup, 1)) ∧ (decode cX12_init 243 = .ok (.iconst 1, 1)) ∧ (decode cX12_init 244 = .ok (.bipush 110, 2)) ∧ (decode cX12_init 246 = .ok (.castore, 1)) ∧ (decode cX12_init 247 = .ok (.putfield 332, 3)) ∧ (decode cX12_init 250 = .ok (.aload_n 0, 1)) ∧ (decode cX12_init 251 = .ok (.iconst 4, 1)) ∧ (decode cX12_init 252 = .ok (.newarray .char, 2)) ∧ (decode cX12_init 254 = .ok (.dup, 1)) := by decide +kernel
theorem dX12_init_242 : decode cX12_init 242 = .ok (.dup, 1) := dX12_init_242_grp.1
theorem dX12_init_243 : decode cX12_init 243 = .ok (.iconst 1, 1) := dX12_init_242_grp.2.1
theorem dX12_init_244 : decode cX12_init 244 = .ok (.bipush 110, 2) := dX12_init_242_grp.2.2.1
theorem dX12_init_246 : decode cX12_init 246 = .ok (.castore, 1) := dX12_init_242_grp.2.2.2.1
theorem dX12_init_247 : decode cX12_init 247 = .ok (.putfield 332, 3) := dX12_init_242_grp.2.2.2.2.1
theorem dX12_init_250 : decode cX12_init 250 = .ok (.aload_n 0, 1) := dX12_init_242_grp.2.2.2.2.2.1
theorem dX12_init_251 : decode cX12_init 251 = .ok (.iconst 4, 1) := dX12_init_242_grp.2.2.2.2.2.2.1
theorem dX12_init_252 : decode cX12_init 252 = .ok (.newarray .char, 2) := dX12_init_242_grp.2.2.2.2.2.2.2.1
theorem dX12_init_254 : decode cX12_init 254 = .ok (.dup, 1) := dX12_init_242_grp.2.2.2.2.2.2.2.2
theorem dX12_init_255_grp : (decode cX12_init 255 = .ok (.iconst 0, 1)) ∧ (decode cX12_init 256 = .ok (.bipush 115, 2)) ∧ (decode cX12_init 258 = .ok (.castore, 1)) ∧ (decode cX12_init 259 = .ok (.dup, 1)) ∧ (decode cX12_init 260 = .ok (.iconst 1, 1)) ∧ (decode cX12_init 261 = .ok (.bipush 116, 2)) ∧ (decode cX12_init 263 = .ok (.castore, 1)) ∧ (decode cX12_init 264 = .ok (.dup, 1)) ∧ (decode cX12_init 265 = .ok (.iconst 2, 1)) := by decide +kernel
theorem dX12_init_255 : decode cX12_init 255 = .ok (.iconst 0, 1) := dX12_init_255_grp.1
theorem dX12_init_256 : decode cX12_init 256 = .ok (.bipush 115, 2) := dX12_init_255_grp.2.1
theorem dX12_init_258 : decode cX12_init 258 = .ok (.castore, 1) := dX12_init_255_grp.2.2.1
theorem dX12_init_259 : decode cX12_init 259 = .ok (.dup, 1) := dX12_init_255_grp.2.2.2.1
theorem dX12_init_260 : decode cX12_init 260 = .ok (.iconst 1, 1) := dX12_init_255_grp.2.2.2.2.1
theorem dX12_init_261 : decode cX12_init 261 = .ok (.bipush 116, 2) := dX12_init_255_grp.2.2.2.2.2.1
theorem dX12_init_263 : decode cX12_init 263 = .ok (.castore, 1) := dX12_init_255_grp.2.2.2.2.2.2.1
theorem dX12_init_264 : decode cX12_init 264 = .ok (.dup, 1) := dX12_init_255_grp.2.2.2.2.2.2.2.1
theorem dX12_init_265 : decode cX12_init 265 = .ok (.iconst 2, 1) := dX12_init_255_grp.2.2.2.2.2.2.2.2
theorem dX12_init_266_grp : (decode cX12_init 266 = .ok (.bipush 97, 2)) ∧ (decode cX12_init 268 = .ok (.castore, 1)) ∧ (decode cX12_init 269 = .ok (.dup, 1)) ∧ (decode cX12_init 270 = .ok (.iconst 3, 1)) ∧ (decode cX12_init 271 = .ok (.bipush 121, 2)) ∧ (decode cX12_init 273 = .ok (.castore, 1)) ∧ (decode cX12_init 274 = .ok (.putfield 335, 3)) ∧ (decode cX12_init 277 = .ok (.aload_n 0, 1)) ∧ (decode cX12_init 278 = .ok (.iconst 4, 1)) := by decide +kernel
theorem dX12_init_266 : decode cX12_init 266 = .ok (.bipush 97, 2) := dX12_init_266_grp.1
theorem dX12_init_268 : decode cX12_init 268 = .ok (.castore, 1) := dX12_init_266_grp.2.1
theorem dX12_init_269 : decode cX12_init 269 = .ok (.dup, 1) := dX12_init_266_grp.2.2.1
theorem dX12_init_270 : decode cX12_init 270 = .ok (.iconst 3, 1) := dX12_init_266_grp.2.2.2.1
theorem dX12_init_271 : decode cX12_init 271 = .ok (.bipush 121, 2) := dX12_init_266_grp.2.2.2.2.1
theorem dX12_init_273 : decode cX12_init 273 = .ok (.castore, 1) := dX12_init_266_grp.2.2.2.2.2.1
theorem dX12_init_274 : decode cX12_init 274 = .ok (.putfield 335, 3) := dX12_init_266_grp.2.2.2.2.2.2.1
theorem dX12_init_277 : decode cX12_init 277 = .ok (.aload_n 0, 1) := dX12_init_266_grp.2.2.2.2.2.2.2.1
theorem dX12_init_278 : decode cX12_init 278 = .ok (.iconst 4, 1) := dX12_init_266_grp.2.2.2.2.2.2.2.2
theorem dX12_init_279_grp : (decode cX12_init 279 = .ok (.newarray .char, 2)) ∧ (decode cX12_init 281 = .ok (.dup, 1)) ∧ (decode cX12_init 282 = .ok (.iconst 0, 1)) ∧ (decode cX12_init 283 = .ok (.bipush 114, 2)) ∧ (decode cX12_init 285 = .ok (.castore, 1)) ∧ (decode cX12_init 286 = .ok (.dup, 1)) ∧ (decode cX12_init 287 = .ok (.iconst 1, 1)) ∧ (decode cX12_init 288 = .ok (.bipush 105, 2)) ∧ (decode cX12_init 290 = .ok (.castore, 1)) := by decide +kernel
theorem dX12_init_279 : decode cX12_init 279 = .ok (.newarray .char, 2) := dX12_init_279_grp.1
theorem dX12_init_281 : decode cX12_init 281 = .ok (.dup, 1) := dX12_init_279_grp.2.1
theorem dX12_init_282 : decode cX12_init 282 = .ok (.iconst 0, 1) := dX12_init_279_grp.2.2.1
theorem dX12_init_283 : decode cX12_init 283 = .ok (.bipush 114, 2) := dX12_init_279_grp.2.2.2.1
theorem dX12_init_285 : decode cX12_init 285 = .ok (.castore, 1) := dX12_init_279_grp.2.2.2.2.1
theorem dX12_init_286 : decode cX12_init 286 = .ok (.dup, 1) := dX12_init_279_grp.2.2.2.2.2.1
theorem dX12_init_287 : decode cX12_init 287 = .ok (.iconst 1, 1) := dX12_init_279_grp.2.2.2.2.2.2.1
theorem dX12_init_288 : decode cX12_init 288 = .ok (.bipush 105, 2) := dX12_init_279_grp.2.2.2.2.2.2.2.1
theorem dX12_init_290 : decode cX12_init 290 = .ok (.castore, 1) := dX12_init_279_grp.2.2.2.2.2.2.2.2
theorem dX12_init_291_grp : (decode cX12_init 291 = .ok (.dup, 1)) ∧ (decode cX12_init 292 = .ok (.iconst 2, 1)) ∧ (decode cX12_init 293 = .ok (.bipush 115, 2)) ∧ (decode cX12_init 295 = .ok (.castore, 1)) ∧ (decode cX12_init 296 = .ok (.dup, 1)) ∧ (decode cX12_init 297 = .ok (.iconst 3, 1)) ∧ (decode cX12_init 298 = .ok (.bipush 101, 2)) ∧ (decode cX12_init 300 = .ok (.castore, 1)) ∧ (decode cX12_init 301 = .ok (.putfield 338, 3)) := by decide +kernel
theorem dX12_init_291 : decode cX12_init 291 = .ok (.dup, 1) := dX12_init_291_grp.1
theorem dX12_init_292 : decode cX12_init 292 = .ok (.iconst 2, 1) := dX12_init_291_grp.2.1
theorem dX12_init_293 : decode cX12_init 293 = .ok (.bipush 115, 2) := dX12_init_291_grp.2.2.1
theorem dX12_init_295 : decode cX12_init 295 = .ok (.castore, 1) := dX12_init_291_grp.2.2.2.1
theorem dX12_init_296 : decode cX12_init 296 = .ok (.dup, 1) := dX12_init_291_grp.2.2.2.2.1
theorem dX12_init_297 : decode cX12_init 297 = .ok (.iconst 3, 1) := dX12_init_291_grp.2.2.2.2.2.1
theorem dX12_init_298 : decode cX12_init 298 = .ok (.bipush 101, 2) := dX12_init_291_grp.2.2.2.2.2.2.1
theorem dX12_init_300 : decode cX12_init 300 = .ok (.castore, 1) := dX12_init_291_grp.2.2.2.2.2.2.2.1
theorem dX12_init_301 : decode cX12_init 301 = .ok (.putfield 338, 3) := dX12_init_291_grp.2.2.2.2.2.2.2.2
theorem dX12_init_304_grp : (decode cX12_init 304 = .ok (.aload_n 0, 1)) ∧ (decode cX12_init 305 = .ok (.iconst 5, 1)) ∧ (decode cX12_init 306 = .ok (.newarray .char, 2)) ∧ (decode cX12_init 308 = .ok (.dup, 1)) ∧ (decode cX12_init 309 = .ok (.iconst 0, 1)) ∧ (decode cX12_init 310 = .ok (.bipush 108, 2)) ∧ (decode cX12_init 312 = .ok (.castore, 1)) ∧ (decode cX12_init 313 = .ok (.dup, 1)) ∧ (decode cX12_init 314 = .ok (.iconst 1, 1)) := by decide +kernel
theorem dX12_init_304 : decode cX12_init 304 = .ok (.aload_n 0, 1) := dX12_init_304_grp.1
theorem dX12_init_305 : decode cX12_init 305 = .ok (.iconst 5, 1) := dX12_init_304_grp.2.1
theorem dX12_init_306 : decode cX12_init 306 = .ok (.newarray .char, 2) := dX12_init_304_grp.2.2.1
theorem dX12_init_308 : decode cX12_init 308 = .ok (.dup, 1) := dX12_init_304_grp.2.2.2.1
theorem dX12_init_309 : decode cX12_init 309 = .ok (.iconst 0, 1) := dX12_init_304_grp.2.2.2.2.1
theorem dX12_init_310 : decode cX12_init 310 = .ok (.bipush 108, 2) := dX12_init_304_grp.2.2.2.2.2.1
theorem dX12_init_312 : decode cX12_init 312 = .ok (.castore, 1) := dX12_init_304_grp.2.2.2.2.2.2.1
theorem dX12_init_313 : decode cX12_init 313 = .ok (.dup, 1) := dX12_init_304_grp.2.2.2.2.2.2.2.1
theorem dX12_init_314 : decode cX12_init 314 = .ok (.iconst 1, 1) := dX12_init_304_grp.2.2.2.2.2.2.2.2
theorem dX12_init_315_grp : (decode cX12_init 315 = .ok (.bipush 105, 2)) ∧ (decode cX12_init 317 = .ok (.castore, 1)) ∧ (decode cX12_init 318 = .ok (.dup, 1)) ∧ (decode cX12_init 319 = .ok (.iconst 2, 1)) ∧ (decode cX12_init 320 = .ok (.bipush 103, 2)) ∧ (decode cX12_init 322 = .ok (.castore, 1)) ∧ (decode cX12_init 323 = .ok (.dup, 1)) ∧ (decode cX12_init 324 = .ok (.iconst 3, 1)) ∧ (decode cX12_init 325 = .ok (.bipush 104, 2)) := by decide +kernel
theorem dX12_init_315 : decode cX12_init 315 = .ok (.bipush 105, 2) := dX12_init_315_grp.1
theorem dX12_init_317 : decode cX12_init 317 = .ok (.castore, 1) := dX12_init_315_grp.2.1
theorem dX12_init_318 : decode cX12_init 318 = .ok (.dup, 1) := dX12_init_315_grp.2.2.1
theorem dX12_init_319 : decode cX12_init 319 = .ok (.iconst 2, 1) := dX12_init_315_grp.2.2.2.1
theorem dX12_init_320 : decode cX12_init 320 = .ok (.bipush 103, 2) := dX12_init_315_grp.2.2.2.2.1
theorem dX12_init_322 : decode cX12_init 322 = .ok (.castore, 1) := dX12_init_315_grp.2.2.2.2.2.1
theorem dX12_init_323 : decode cX12_init 323 = .ok (.dup, 1) := dX12_init_315_grp.2.2.2.2.2.2.1
theorem dX12_init_324 : decode cX12_init 324 = .ok (.iconst 3, 1) := dX12_init_315_grp.2.2.2.2.2.2.2.1
theorem dX12_init_325 : decode cX12_init 325 = .ok (.bipush 104, 2) := dX12_init_315_grp.2.2.2.2.2.2.2.2
theorem dX12_init_327_grp : (decode cX12_init 327 = .ok (.castore, 1)) ∧ (decode cX12_init 328 = .ok (.dup, 1)) ∧ (decode cX12_init 329 = .ok (.iconst 4, 1)) ∧ (decode cX12_init 330 = .ok (.bipush 116, 2)) ∧ (decode cX12_init 332 = .ok (.castore, 1)) ∧ (decode cX12_init 333 = .ok (.putfield 341, 3)) ∧ (decode cX12_init 336 = .ok (.aload_n 0, 1)) ∧ (decode cX12_init 337 = .ok (.iconst 2, 1)) ∧ (decode cX12_init 338 = .ok (.newarray .char, 2)) := by decide +kernel
theorem dX12_init_327 : decode cX12_init 327 = .ok (.castore, 1) := dX12_init_327_grp.1
theorem dX12_init_328 : decode cX12_init 328 = .ok (.dup, 1) := dX12_init_327_grp.2.1
theorem dX12_init_329 : decode cX12_init 329 = .ok (.iconst 4, 1) := dX12_init_327_grp.2.2.1
theorem dX12_init_330 : decode cX12_init 330 = .ok (.bipush 116, 2) := dX12_init_327_grp.2.2.2.1
theorem dX12_init_332 : decode cX12_init 332 = .ok (.castore, 1) := dX12_init_327_grp.2.2.2.2.1
theorem dX12_init_333 : decode cX12_init 333 = .ok (.putfield 341, 3) := dX12_init_327_grp.2.2.2.2.2.1
theorem dX12_init_336 : decode cX12_init 336 = .ok (.aload_n 0, 1) := dX12_init_327_grp.2.2.2.2.2.2.1
theorem dX12_init_337 : decode cX12_init 337 = .ok (.iconst 2, 1) := dX12_init_327_grp.2.2.2.2.2.2.2.1
theorem dX12_init_338 : decode cX12_init 338 = .ok (.newarray .char, 2) := dX12_init_327_grp.2.2.2.2.2.2.2.2
theorem dX12_init_340_grp : (decode cX12_init 340 = .ok (.dup, 1)) ∧ (decode cX12_init 341 = .ok (.iconst 0, 1)) ∧ (decode cX12_init 342 = .ok (.bipush 111, 2)) ∧ (decode cX12_init 344 = .ok (.castore, 1)) ∧ (decode cX12_init 345 = .ok (.dup, 1)) ∧ (decode cX12_init 346 = .ok (.iconst 1, 1)) ∧ (decode cX12_init 347 = .ok (.bipush 110, 2)) ∧ (decode cX12_init 349 = .ok (.castore, 1)) ∧ (decode cX12_init 350 = .ok (.putfield 344, 3)) := by decide +kernel
theorem dX12_init_340 : decode cX12_init 340 = .ok (.dup, 1) := dX12_init_340_grp.1
theorem dX12_init_341 : decode cX12_init 341 = .ok (.iconst 0, 1) := dX12_init_340_grp.2.1
theorem dX12_init_342 : decode cX12_init 342 = .ok (.bipush 111, 2) := dX12_init_340_grp.2.2.1
theorem dX12_init_344 : decode cX12_init 344 = .ok (.castore, 1) := dX12_init_340_grp.2.2.2.1
theorem dX12_init_345 : decode cX12_init 345 = .ok (.dup, 1) := dX12_init_340_grp.2.2.2.2.1
theorem dX12_init_346 : decode cX12_init 346 = .ok (.iconst 1, 1) := dX12_init_340_grp.2.2.2.2.2.1
theorem dX12_init_347 : decode cX12_init 347 = .ok (.bipush 110, 2) := dX12_init_340_grp.2.2.2.2.2.2.1
theorem dX12_init_349 : decode cX12_init 349 = .ok (.castore, 1) := dX12_init_340_grp.2.2.2.2.2.2.2.1
theorem dX12_init_350 : decode cX12_init 350 = .ok (.putfield 344, 3) := dX12_init_340_grp.2.2.2.2.2.2.2.2
theorem dX12_init_353_grp : (decode cX12_init 353 = .ok (.aload_n 0, 1)) ∧ (decode cX12_init 354 = .ok (.iconst 3, 1)) ∧ (decode cX12_init 355 = .ok (.newarray .char, 2)) ∧ (decode cX12_init 357 = .ok (.dup, 1)) ∧ (decode cX12_init 358 = .ok (.iconst 0, 1)) ∧ (decode cX12_init 359 = .ok (.bipush 111, 2)) ∧ (decode cX12_init 361 = .ok (.castore, 1)) ∧ (decode cX12_init 362 = .ok (.dup, 1)) ∧ (decode cX12_init 363 = .ok (.iconst 1, 1)) := by decide +kernel
theorem dX12_init_353 : decode cX12_init 353 = .ok (.aload_n 0, 1) := dX12_init_353_grp.1
theorem dX12_init_354 : decode cX12_init 354 = .ok (.iconst 3, 1) := dX12_init_353_grp.2.1
theorem dX12_init_355 : decode cX12_init 355 = .ok (.newarray .char, 2) := dX12_init_353_grp.2.2.1
theorem dX12_init_357 : decode cX12_init 357 = .ok (.dup, 1) := dX12_init_353_grp.2.2.2.1
theorem dX12_init_358 : decode cX12_init 358 = .ok (.iconst 0, 1) := dX12_init_353_grp.2.2.2.2.1
theorem dX12_init_359 : decode cX12_init 359 = .ok (.bipush 111, 2) := dX12_init_353_grp.2.2.2.2.2.1
theorem dX12_init_361 : decode cX12_init 361 = .ok (.castore, 1) := dX12_init_353_grp.2.2.2.2.2.2.1
theorem dX12_init_362 : decode cX12_init 362 = .ok (.dup, 1) := dX12_init_353_grp.2.2.2.2.2.2.2.1
theorem dX12_init_363 : decode cX12_init 363 = .ok (.iconst 1, 1) := dX12_init_353_grp.2.2.2.2.2.2.2.2
theorem dX12_init_364_grp : (decode cX12_init 364 = .ok (.bipush 102, 2)) ∧ (decode cX12_init 366 = .ok (.castore, 1)) ∧ (decode cX12_init 367 = .ok (.dup, 1)) ∧ (decode cX12_init 368 = .ok (.iconst 2, 1)) ∧ (decode cX12_init 369 = .ok (.bipush 102, 2)) ∧ (decode cX12_init 371 = .ok (.castore, 1)) ∧ (decode cX12_init 372 = .ok (.putfield 347, 3)) ∧ (decode cX12_init 375 = .ok (.aload_n 0, 1)) ∧ (decode cX12_init 376 = .ok (.bipush 6, 2)) := by decide +kernel
theorem dX12_init_364 : decode cX12_init 364 = .ok (.bipush 102, 2) := dX12_init_364_grp.1
theorem dX12_init_366 : decode cX12_init 366 = .ok (.castore, 1) := dX12_init_364_grp.2.1
theorem dX12_init_367 : decode cX12_init 367 = .ok (.dup, 1) := dX12_init_364_grp.2.2.1
theorem dX12_init_368 : decode cX12_init 368 = .ok (.iconst 2, 1) := dX12_init_364_grp.2.2.2.1
theorem dX12_init_369 : decode cX12_init 369 = .ok (.bipush 102, 2) := dX12_init_364_grp.2.2.2.2.1
theorem dX12_init_371 : decode cX12_init 371 = .ok (.castore, 1) := dX12_init_364_grp.2.2.2.2.2.1
theorem dX12_init_372 : decode cX12_init 372 = .ok (.putfield 347, 3) := dX12_init_364_grp.2.2.2.2.2.2.1
theorem dX12_init_375 : decode cX12_init 375 = .ok (.aload_n 0, 1) := dX12_init_364_grp.2.2.2.2.2.2.2.1
theorem dX12_init_376 : decode cX12_init 376 = .ok (.bipush 6, 2) := dX12_init_364_grp.2.2.2.2.2.2.2.2
theorem dX12_init_378_grp : (decode cX12_init 378 = .ok (.newarray .char, 2)) ∧ (decode cX12_init 380 = .ok (.dup, 1)) ∧ (decode cX12_init 381 = .ok (.iconst 0, 1)) ∧ (decode cX12_init 382 = .ok (.bipush 114, 2)) ∧ (decode cX12_init 384 = .ok (.castore, 1)) ∧ (decode cX12_init 385 = .ok (.dup, 1)) ∧ (decode cX12_init 386 = .ok (.iconst 1, 1)) ∧ (decode cX12_init 387 = .ok (.bipush 101, 2)) ∧ (decode cX12_init 389 = .ok (.castore, 1)) := by decide +kernel
theorem dX12_init_378 : decode cX12_init 378 = .ok (.newarray .char, 2) := dX12_init_378_grp.1
theorem dX12_init_380 : decode cX12_init 380 = .ok (.dup, 1) := dX12_init_378_grp.2.1
theorem dX12_init_381 : decode cX12_init 381 = .ok (.iconst 0, 1) := dX12_init_378_grp.2.2.1
theorem dX12_init_382 : decode cX12_init 382 = .ok (.bipush 114, 2) := dX12_init_378_grp.2.2.2.1
theorem dX12_init_384 : decode cX12_init 384 = .ok (.castore, 1) := dX12_init_378_grp.2.2.2.2.1
theorem dX12_init_385 : decode cX12_init 385 = .ok (.dup, 1) := dX12_init_378_grp.2.2.2.2.2.1
theorem dX12_init_386 : decode cX12_init 386 = .ok (.iconst 1, 1) := dX12_init_378_grp.2.2.2.2.2.2.1
theorem dX12_init_387 : decode cX12_init 387 = .ok (.bipush 101, 2) := dX12_init_378_grp.2.2.2.2.2.2.2.1
theorem dX12_init_389 : decode cX12_init 389 = .ok (.castore, 1) := dX12_init_378_grp.2.2.2.2.2.2.2.2
theorem dX12_init_390_grp : (decode cX12_init 390 = .ok (.dup, 1)) ∧ (decode cX12_init 391 = .ok (.iconst 2, 1)) ∧ (decode cX12_init 392 = .ok (.bipush 112, 2)) ∧ (decode cX12_init 394 = .ok (.castore, 1)) ∧ (decode cX12_init 395 = .ok (.dup, 1)) ∧ (decode cX12_init 396 = .ok (.iconst 3, 1)) ∧ (decode cX12_init 397 = .ok (.bipush 101, 2)) ∧ (decode cX12_init 399 = .ok (.castore, 1)) ∧ (decode cX12_init 400 = .ok (.dup, 1)) := by decide +kernel
theorem dX12_init_390 : decode cX12_init 390 = .ok (.dup, 1) := dX12_init_390_grp.1
theorem dX12_init_391 : decode cX12_init 391 = .ok (.iconst 2, 1) := dX12_init_390_grp.2.1
theorem dX12_init_392 : decode cX12_init 392 = .ok (.bipush 112, 2) := dX12_init_390_grp.2.2.1
theorem dX12_init_394 : decode cX12_init 394 = .ok (.castore, 1) := dX12_init_390_grp.2.2.2.1
theorem dX12_init_395 : decode cX12_init 395 = .ok (.dup, 1) := dX12_init_390_grp.2.2.2.2.1
theorem dX12_init_396 : decode cX12_init 396 = .ok (.iconst 3, 1) := dX12_init_390_grp.2.2.2.2.2.1
theorem dX12_init_397 : decode cX12_init 397 = .ok (.bipush 101, 2) := dX12_init_390_grp.2.2.2.2.2.2.1
theorem dX12_init_399 : decode cX12_init 399 = .ok (.castore, 1) := dX12_init_390_grp.2.2.2.2.2.2.2.1
theorem dX12_init_400 : decode cX12_init 400 = .ok (.dup, 1) := dX12_init_390_grp.2.2.2.2.2.2.2.2
theorem dX12_init_401_grp : (decode cX12_init 401 = .ok (.iconst 4, 1)) ∧ (decode cX12_init 402 = .ok (.bipush 97, 2)) ∧ (decode cX12_init 404 = .ok (.castore, 1)) ∧ (decode cX12_init 405 = .ok (.dup, 1)) ∧ (decode cX12_init 406 = .ok (.iconst 5, 1)) ∧ (decode cX12_init 407 = .ok (.bipush 116, 2)) ∧ (decode cX12_init 409 = .ok (.castore, 1)) ∧ (decode cX12_init 410 = .ok (.putfield 350, 3)) ∧ (decode cX12_init 413 = .ok (.aload_n 0, 1)) := by decide +kernel
theorem dX12_init_401 : decode cX12_init 401 = .ok (.iconst 4, 1) := dX12_init_401_grp.1
theorem dX12_init_402 : decode cX12_init 402 = .ok (.bipush 97, 2) := dX12_init_401_grp.2.1
theorem dX12_init_404 : decode cX12_init 404 = .ok (.castore, 1) := dX12_init_401_grp.2.2.1
theorem dX12_init_405 : decode cX12_init 405 = .ok (.dup, 1) := dX12_init_401_grp.2.2.2.1
theorem dX12_init_406 : decode cX12_init 406 = .ok (.iconst 5, 1) := dX12_init_401_grp.2.2.2.2.1
theorem dX12_init_407 : decode cX12_init 407 = .ok (.bipush 116, 2) := dX12_init_401_grp.2.2.2.2.2.1
theorem dX12_init_409 : decode cX12_init 409 = .ok (.castore, 1) := dX12_init_401_grp.2.2.2.2.2.2.1
theorem dX12_init_410 : decode cX12_init 410 = .ok (.putfield 350, 3) := dX12_init_401_grp.2.2.2.2.2.2.2.1
theorem dX12_init_413 : decode cX12_init 413 = .ok (.aload_n 0, 1) := dX12_init_401_grp.2.2.2.2.2.2.2.2
theorem dX12_init_414_grp : (decode cX12_init 414 = .ok (.bipush 6, 2)) ∧ (decode cX12_init 416 = .ok (.newarray .char, 2)) ∧ (decode cX12_init 418 = .ok (.dup, 1)) ∧ (decode cX12_init 419 = .ok (.iconst 0, 1)) ∧ (decode cX12_init 420 = .ok (.bipush 102, 2)) ∧ (decode cX12_init 422 = .ok (.castore, 1)) ∧ (decode cX12_init 423 = .ok (.dup, 1)) ∧ (decode cX12_init 424 = .ok (.iconst 1, 1)) ∧ (decode cX12_init 425 = .ok (.bipush 105, 2)) := by decide +kernel
theorem dX12_init_414 : decode cX12_init 414 = .ok (.bipush 6, 2) := dX12_init_414_grp.1
theorem dX12_init_416 : decode cX12_init 416 = .ok (.newarray .char, 2) := dX12_init_414_grp.2.1
theorem dX12_init_418 : decode cX12_init 418 = .ok (.dup, 1) := dX12_init_414_grp.2.2.1
theorem dX12_init_419 : decode cX12_init 419 = .ok (.iconst 0, 1) := dX12_init_414_grp.2.2.2.1
theorem dX12_init_420 : decode cX12_init 420 = .ok (.bipush 102, 2) := dX12_init_414_grp.2.2.2.2.1
theorem dX12_init_422 : decode cX12_init 422 = .ok (.castore, 1) := dX12_init_414_grp.2.2.2.2.2.1
theorem dX12_init_423 : decode cX12_init 423 = .ok (.dup, 1) := dX12_init_414_grp.2.2.2.2.2.2.1
theorem dX12_init_424 : decode cX12_init 424 = .ok (.iconst 1, 1) := dX12_init_414_grp.2.2.2.2.2.2.2.1
theorem dX12_init_425 : decode cX12_init 425 = .ok (.bipush 105, 2) := dX12_init_414_grp.2.2.2.2.2.2.2.2
theorem dX12_init_427_grp : (decode cX12_init 427 = .ok (.castore, 1)) ∧ (decode cX12_init 428 = .ok (.dup, 1)) ∧ (decode cX12_init 429 = .ok (.iconst 2, 1)) ∧ (decode cX12_init 430 = .ok (.bipush 103, 2)) ∧ (decode cX12_init 432 = .ok (.castore, 1)) ∧ (decode cX12_init 433 = .ok (.dup, 1)) ∧ (decode cX12_init 434 = .ok (.iconst 3, 1)) ∧ (decode cX12_init 435 = .ok (.bipush 117, 2)) ∧ (decode cX12_init 437 = .ok (.castore, 1)) := by decide +kernel
theorem dX12_init_427 : decode cX12_init 427 = .ok (.castore, 1) := dX12_init_427_grp.1
theorem dX12_init_428 : decode cX12_init 428 = .ok (.dup, 1) := dX12_init_427_grp.2.1
theorem dX12_init_429 : decode cX12_init 429 = .ok (.iconst 2, 1) := dX12_init_427_grp.2.2.1
theorem dX12_init_430 : decode cX12_init 430 = .ok (.bipush 103, 2) := dX12_init_427_grp.2.2.2.1
theorem dX12_init_432 : decode cX12_init 432 = .ok (.castore, 1) := dX12_init_427_grp.2.2.2.2.1
theorem dX12_init_433 : decode cX12_init 433 = .ok (.dup, 1) := dX12_init_427_grp.2.2.2.2.2.1
theorem dX12_init_434 : decode cX12_init 434 = .ok (.iconst 3, 1) := dX12_init_427_grp.2.2.2.2.2.2.1
theorem dX12_init_435 : decode cX12_init 435 = .ok (.bipush 117, 2) := dX12_init_427_grp.2.2.2.2.2.2.2.1
theorem dX12_init_437 : decode cX12_init 437 = .ok (.castore, 1) := dX12_init_427_grp.2.2.2.2.2.2.2.2
theorem dX12_init_438_grp : (decode cX12_init 438 = .ok (.dup, 1)) ∧ (decode cX12_init 439 = .ok (.iconst 4, 1)) ∧ (decode cX12_init 440 = .ok (.bipush 114, 2)) ∧ (decode cX12_init 442 = .ok (.castore, 1)) ∧ (decode cX12_init 443 = .ok (.dup, 1)) ∧ (decode cX12_init 444 = .ok (.iconst 5, 1)) ∧ (decode cX12_init 445 = .ok (.bipush 101, 2)) ∧ (decode cX12_init 447 = .ok (.castore, 1)) ∧ (decode cX12_init 448 = .ok (.putfield 353, 3)) := by decide +kernel
theorem dX12_init_438 : decode cX12_init 438 = .ok (.dup, 1) := dX12_init_438_grp.1
theorem dX12_init_439 : decode cX12_init 439 = .ok (.iconst 4, 1) := dX12_init_438_grp.2.1
theorem dX12_init_440 : decode cX12_init 440 = .ok (.bipush 114, 2) := dX12_init_438_grp.2.2.1
theorem dX12_init_442 : decode cX12_init 442 = .ok (.castore, 1) := dX12_init_438_grp.2.2.2.1
theorem dX12_init_443 : decode cX12_init 443 = .ok (.dup, 1) := dX12_init_438_grp.2.2.2.2.1
theorem dX12_init_444 : decode cX12_init 444 = .ok (.iconst 5, 1) := dX12_init_438_grp.2.2.2.2.2.1
theorem dX12_init_445 : decode cX12_init 445 = .ok (.bipush 101, 2) := dX12_init_438_grp.2.2.2.2.2.2.1
theorem dX12_init_447 : decode cX12_init 447 = .ok (.castore, 1) := dX12_init_438_grp.2.2.2.2.2.2.2.1
theorem dX12_init_448 : decode cX12_init 448 = .ok (.putfield 353, 3) := dX12_init_438_grp.2.2.2.2.2.2.2.2
theorem dX12_init_451_grp : (decode cX12_init 451 = .ok (.aload_n 0, 1)) ∧ (decode cX12_init 452 = .ok (.iconst 2, 1)) ∧ (decode cX12_init 453 = .ok (.newarray .char, 2)) ∧ (decode cX12_init 455 = .ok (.dup, 1)) ∧ (decode cX12_init 456 = .ok (.iconst 0, 1)) ∧ (decode cX12_init 457 = .ok (.bipush 100, 2)) ∧ (decode cX12_init 459 = .ok (.castore, 1)) ∧ (decode cX12_init 460 = .ok (.dup, 1)) ∧ (decode cX12_init 461 = .ok (.iconst 1, 1)) := by decide +kernel
theorem dX12_init_451 : decode cX12_init 451 = .ok (.aload_n 0, 1) := dX12_init_451_grp.1
theorem dX12_init_452 : decode cX12_init 452 = .ok (.iconst 2, 1) := dX12_init_451_grp.2.1
theorem dX12_init_453 : decode cX12_init 453 = .ok (.newarray .char, 2) := dX12_init_451_grp.2.2.1
theorem dX12_init_455 : decode cX12_init 455 = .ok (.dup, 1) := dX12_init_451_grp.2.2.2.1
theorem dX12_init_456 : decode cX12_init 456 = .ok (.iconst 0, 1) := dX12_init_451_grp.2.2.2.2.1
theorem dX12_init_457 : decode cX12_init 457 = .ok (.bipush 100, 2) := dX12_init_451_grp.2.2.2.2.2.1
theorem dX12_init_459 : decode cX12_init 459 = .ok (.castore, 1) := dX12_init_451_grp.2.2.2.2.2.2.1
theorem dX12_init_460 : decode cX12_init 460 = .ok (.dup, 1) := dX12_init_451_grp.2.2.2.2.2.2.2.1
theorem dX12_init_461 : decode cX12_init 461 = .ok (.iconst 1, 1) := dX12_init_451_grp.2.2.2.2.2.2.2.2
theorem dX12_init_462_grp : (decode cX12_init 462 = .ok (.bipush 111, 2)) ∧ (decode cX12_init 464 = .ok (.castore, 1)) ∧ (decode cX12_init 465 = .ok (.putfield 359, 3)) ∧ (decode cX12_init 468 = .ok (.aload_n 0, 1)) ∧ (decode cX12_init 469 = .ok (.sipush 400, 3)) ∧ (decode cX12_init 472 = .ok (.newarray .int, 2)) ∧ (decode cX12_init 474 = .ok (.putfield 231, 3)) ∧ (decode cX12_init 477 = .ok (.aload_n 0, 1)) ∧ (decode cX12_init 478 = .ok (.sipush 400, 3)) := by decide +kernel
theorem dX12_init_462 : decode cX12_init 462 = .ok (.bipush 111, 2) := dX12_init_462_grp.1
theorem dX12_init_464 : decode cX12_init 464 = .ok (.castore, 1) := dX12_init_462_grp.2.1
theorem dX12_init_465 : decode cX12_init 465 = .ok (.putfield 359, 3) := dX12_init_462_grp.2.2.1
theorem dX12_init_468 : decode cX12_init 468 = .ok (.aload_n 0, 1) := dX12_init_462_grp.2.2.2.1
theorem dX12_init_469 : decode cX12_init 469 = .ok (.sipush 400, 3) := dX12_init_462_grp.2.2.2.2.1
theorem dX12_init_472 : decode cX12_init 472 = .ok (.newarray .int, 2) := dX12_init_462_grp.2.2.2.2.2.1
theorem dX12_init_474 : decode cX12_init 474 = .ok (.putfield 231, 3) := dX12_init_462_grp.2.2.2.2.2.2.1
theorem dX12_init_477 : decode cX12_init 477 = .ok (.aload_n 0, 1) := dX12_init_462_grp.2.2.2.2.2.2.2.1
theorem dX12_init_478 : decode cX12_init 478 = .ok (.sipush 400, 3) := dX12_init_462_grp.2.2.2.2.2.2.2.2
theorem dX12_init_481_grp : (decode cX12_init 481 = .ok (.newarray .int, 2)) ∧ (decode cX12_init 483 = .ok (.putfield 237, 3)) ∧ (decode cX12_init 486 = .ok (.aload_n 0, 1)) ∧ (decode cX12_init 487 = .ok (.sipush 400, 3)) ∧ (decode cX12_init 490 = .ok (.newarray .int, 2)) ∧ (decode cX12_init 492 = .ok (.putfield 240, 3)) ∧ (decode cX12_init 495 = .ok (.aload_n 0, 1)) ∧ (decode cX12_init 496 = .ok (.sipush 400, 3)) ∧ (decode cX12_init 499 = .ok (.newarray .int, 2)) := by decide +kernel
theorem dX12_init_481 : decode cX12_init 481 = .ok (.newarray .int, 2) := dX12_init_481_grp.1
theorem dX12_init_483 : decode cX12_init 483 = .ok (.putfield 237, 3) := dX12_init_481_grp.2.1
theorem dX12_init_486 : decode cX12_init 486 = .ok (.aload_n 0, 1) := dX12_init_481_grp.2.2.1
theorem dX12_init_487 : decode cX12_init 487 = .ok (.sipush 400, 3) := dX12_init_481_grp.2.2.2.1
theorem dX12_init_490 : decode cX12_init 490 = .ok (.newarray .int, 2) := dX12_init_481_grp.2.2.2.2.1
theorem dX12_init_492 : decode cX12_init 492 = .ok (.putfield 240, 3) := dX12_init_481_grp.2.2.2.2.2.1
theorem dX12_init_495 : decode cX12_init 495 = .ok (.aload_n 0, 1) := dX12_init_481_grp.2.2.2.2.2.2.1
theorem dX12_init_496 : decode cX12_init 496 = .ok (.sipush 400, 3) := dX12_init_481_grp.2.2.2.2.2.2.2.1
theorem dX12_init_499 : decode cX12_init 499 = .ok (.newarray .int, 2) := dX12_init_481_grp.2.2.2.2.2.2.2.2
theorem dX12_init_501_grp : (decode cX12_init 501 = .ok (.putfield 277, 3)) ∧ (decode cX12_init 504 = .ok (.aload_n 0, 1)) ∧ (decode cX12_init 505 = .ok (.sipush 400, 3)) ∧ (decode cX12_init 508 = .ok (.newarray .int, 2)) ∧ (decode cX12_init 510 = .ok (.putfield 280, 3)) ∧ (decode cX12_init 513 = .ok (.aload_n 0, 1)) ∧ (decode cX12_init 514 = .ok (.sipush 400, 3)) ∧ (decode cX12_init 517 = .ok (.newarray .int, 2)) ∧ (decode cX12_init 519 = .ok (.putfield 283, 3)) := by decide +kernel
theorem dX12_init_501 : decode cX12_init 501 = .ok (.putfield 277, 3) := dX12_init_501_grp.1
theorem dX12_init_504 : decode cX12_init 504 = .ok (.aload_n 0, 1) := dX12_init_501_grp.2.1
theorem dX12_init_505 : decode cX12_init 505 = .ok (.sipush 400, 3) := dX12_init_501_grp.2.2.1
theorem dX12_init_508 : decode cX12_init 508 = .ok (.newarray .int, 2) := dX12_init_501_grp.2.2.2.1
theorem dX12_init_510 : decode cX12_init 510 = .ok (.putfield 280, 3) := dX12_init_501_grp.2.2.2.2.1
theorem dX12_init_513 : decode cX12_init 513 = .ok (.aload_n 0, 1) := dX12_init_501_grp.2.2.2.2.2.1
theorem dX12_init_514 : decode cX12_init 514 = .ok (.sipush 400, 3) := dX12_init_501_grp.2.2.2.2.2.2.1
theorem dX12_init_517 : decode cX12_init 517 = .ok (.newarray .int, 2) := dX12_init_501_grp.2.2.2.2.2.2.2.1
theorem dX12_init_519 : decode cX12_init 519 = .ok (.putfield 283, 3) := dX12_init_501_grp.2.2.2.2.2.2.2.2
theorem dX12_init_522_grp : (decode cX12_init 522 = .ok (.aload_n 0, 1)) ∧ (decode cX12_init 523 = .ok (.sipush 400, 3)) ∧ (decode cX12_init 526 = .ok (.newarray .int, 2)) ∧ (decode cX12_init 528 = .ok (.putfield 286, 3)) ∧ (decode cX12_init 531 = .ok (.aload_n 0, 1)) ∧ (decode cX12_init 532 = .ok (.bipush 12, 2)) ∧ (decode cX12_init 534 = .ok (.newarray .long, 2)) ∧ (decode cX12_init 536 = .ok (.putfield 274, 3)) ∧ (decode cX12_init 539 = .ok (.aload_n 0, 1)) := by decide +kernel
theorem dX12_init_522 : decode cX12_init 522 = .ok (.aload_n 0, 1) := dX12_init_522_grp.1
theorem dX12_init_523 : decode cX12_init 523 = .ok (.sipush 400, 3) := dX12_init_522_grp.2.1
theorem dX12_init_526 : decode cX12_init 526 = .ok (.newarray .int, 2) := dX12_init_522_grp.2.2.1
theorem dX12_init_528 : decode cX12_init 528 = .ok (.putfield 286, 3) := dX12_init_522_grp.2.2.2.1
theorem dX12_init_531 : decode cX12_init 531 = .ok (.aload_n 0, 1) := dX12_init_522_grp.2.2.2.2.1
theorem dX12_init_532 : decode cX12_init 532 = .ok (.bipush 12, 2) := dX12_init_522_grp.2.2.2.2.2.1
theorem dX12_init_534 : decode cX12_init 534 = .ok (.newarray .long, 2) := dX12_init_522_grp.2.2.2.2.2.2.1
theorem dX12_init_536 : decode cX12_init 536 = .ok (.putfield 274, 3) := dX12_init_522_grp.2.2.2.2.2.2.2.1
theorem dX12_init_539 : decode cX12_init 539 = .ok (.aload_n 0, 1) := dX12_init_522_grp.2.2.2.2.2.2.2.2
theorem dX12_init_540_grp : (decode cX12_init 540 = .ok (.bipush 12, 2)) ∧ (decode cX12_init 542 = .ok (.newarray .int, 2)) ∧ (decode cX12_init 544 = .ok (.putfield 289, 3)) ∧ (decode cX12_init 547 = .ok (.aload_n 0, 1)) ∧ (decode cX12_init 548 = .ok (.bipush 8, 2)) ∧ (decode cX12_init 550 = .ok (.newarray .int, 2)) ∧ (decode cX12_init 552 = .ok (.putfield 258, 3)) ∧ (decode cX12_init 555 = .ok (.aload_n 0, 1)) ∧ (decode cX12_init 556 = .ok (.bipush 8, 2)) := by decide +kernel
theorem dX12_init_540 : decode cX12_init 540 = .ok (.bipush 12, 2) := dX12_init_540_grp.1
theorem dX12_init_542 : decode cX12_init 542 = .ok (.newarray .int, 2) := dX12_init_540_grp.2.1
theorem dX12_init_544 : decode cX12_init 544 = .ok (.putfield 289, 3) := dX12_init_540_grp.2.2.1
theorem dX12_init_547 : decode cX12_init 547 = .ok (.aload_n 0, 1) := dX12_init_540_grp.2.2.2.1
theorem dX12_init_548 : decode cX12_init 548 = .ok (.bipush 8, 2) := dX12_init_540_grp.2.2.2.2.1
theorem dX12_init_550 : decode cX12_init 550 = .ok (.newarray .int, 2) := dX12_init_540_grp.2.2.2.2.2.1
theorem dX12_init_552 : decode cX12_init 552 = .ok (.putfield 258, 3) := dX12_init_540_grp.2.2.2.2.2.2.1
theorem dX12_init_555 : decode cX12_init 555 = .ok (.aload_n 0, 1) := dX12_init_540_grp.2.2.2.2.2.2.2.1
theorem dX12_init_556 : decode cX12_init 556 = .ok (.bipush 8, 2) := dX12_init_540_grp.2.2.2.2.2.2.2.2
theorem dX12_init_558_grp : (decode cX12_init 558 = .ok (.newarray .int, 2)) ∧ (decode cX12_init 560 = .ok (.putfield 243, 3)) ∧ (decode cX12_init 563 = .ok (.aload_n 0, 1)) ∧ (decode cX12_init 564 = .ok (.bipush 8, 2)) ∧ (decode cX12_init 566 = .ok (.newarray .int, 2)) ∧ (decode cX12_init 568 = .ok (.putfield 261, 3)) ∧ (decode cX12_init 571 = .ok (.aload_n 0, 1)) ∧ (decode cX12_init 572 = .ok (.bipush 8, 2)) ∧ (decode cX12_init 574 = .ok (.newarray .int, 2)) := by decide +kernel
theorem dX12_init_558 : decode cX12_init 558 = .ok (.newarray .int, 2) := dX12_init_558_grp.1
theorem dX12_init_560 : decode cX12_init 560 = .ok (.putfield 243, 3) := dX12_init_558_grp.2.1
theorem dX12_init_563 : decode cX12_init 563 = .ok (.aload_n 0, 1) := dX12_init_558_grp.2.2.1
theorem dX12_init_564 : decode cX12_init 564 = .ok (.bipush 8, 2) := dX12_init_558_grp.2.2.2.1
theorem dX12_init_566 : decode cX12_init 566 = .ok (.newarray .int, 2) := dX12_init_558_grp.2.2.2.2.1
theorem dX12_init_568 : decode cX12_init 568 = .ok (.putfield 261, 3) := dX12_init_558_grp.2.2.2.2.2.1
theorem dX12_init_571 : decode cX12_init 571 = .ok (.aload_n 0, 1) := dX12_init_558_grp.2.2.2.2.2.2.1
theorem dX12_init_572 : decode cX12_init 572 = .ok (.bipush 8, 2) := dX12_init_558_grp.2.2.2.2.2.2.2.1
theorem dX12_init_574 : decode cX12_init 574 = .ok (.newarray .int, 2) := dX12_init_558_grp.2.2.2.2.2.2.2.2
theorem dX12_init_576_grp : (decode cX12_init 576 = .ok (.putfield 264, 3)) ∧ (decode cX12_init 579 = .ok (.aload_n 0, 1)) ∧ (decode cX12_init 580 = .ok (.bipush 8, 2)) ∧ (decode cX12_init 582 = .ok (.newarray .long, 2)) ∧ (decode cX12_init 584 = .ok (.putfield 267, 3)) ∧ (decode cX12_init 587 = .ok (.aload_n 0, 1)) ∧ (decode cX12_init 588 = .ok (.sipush 241, 3)) ∧ (decode cX12_init 591 = .ok (.newarray .int, 2)) ∧ (decode cX12_init 593 = .ok (.putfield 381, 3)) := by decide +kernel
theorem dX12_init_576 : decode cX12_init 576 = .ok (.putfield 264, 3) := dX12_init_576_grp.1
theorem dX12_init_579 : decode cX12_init 579 = .ok (.aload_n 0, 1) := dX12_init_576_grp.2.1
theorem dX12_init_580 : decode cX12_init 580 = .ok (.bipush 8, 2) := dX12_init_576_grp.2.2.1
theorem dX12_init_582 : decode cX12_init 582 = .ok (.newarray .long, 2) := dX12_init_576_grp.2.2.2.1
theorem dX12_init_584 : decode cX12_init 584 = .ok (.putfield 267, 3) := dX12_init_576_grp.2.2.2.2.1
theorem dX12_init_587 : decode cX12_init 587 = .ok (.aload_n 0, 1) := dX12_init_576_grp.2.2.2.2.2.1
theorem dX12_init_588 : decode cX12_init 588 = .ok (.sipush 241, 3) := dX12_init_576_grp.2.2.2.2.2.2.1
theorem dX12_init_591 : decode cX12_init 591 = .ok (.newarray .int, 2) := dX12_init_576_grp.2.2.2.2.2.2.2.1
theorem dX12_init_593 : decode cX12_init 593 = .ok (.putfield 381, 3) := dX12_init_576_grp.2.2.2.2.2.2.2.2
theorem dX12_init_596_grp : (decode cX12_init 596 = .ok (.aload_n 0, 1)) ∧ (decode cX12_init 597 = .ok (.sipush 241, 3)) ∧ (decode cX12_init 600 = .ok (.newarray .int, 2)) ∧ (decode cX12_init 602 = .ok (.putfield 384, 3)) ∧ (decode cX12_init 605 = .ok (.aload_n 0, 1)) ∧ (decode cX12_init 606 = .ok (.sipush 241, 3)) ∧ (decode cX12_init 609 = .ok (.newarray .int, 2)) ∧ (decode cX12_init 611 = .ok (.putfield 387, 3)) ∧ (decode cX12_init 614 = .ok (.aload_n 0, 1)) := by decide +kernel
theorem dX12_init_596 : decode cX12_init 596 = .ok (.aload_n 0, 1) := dX12_init_596_grp.1
theorem dX12_init_597 : decode cX12_init 597 = .ok (.sipush 241, 3) := dX12_init_596_grp.2.1
theorem dX12_init_600 : decode cX12_init 600 = .ok (.newarray .int, 2) := dX12_init_596_grp.2.2.1
theorem dX12_init_602 : decode cX12_init 602 = .ok (.putfield 384, 3) := dX12_init_596_grp.2.2.2.1
theorem dX12_init_605 : decode cX12_init 605 = .ok (.aload_n 0, 1) := dX12_init_596_grp.2.2.2.2.1
theorem dX12_init_606 : decode cX12_init 606 = .ok (.sipush 241, 3) := dX12_init_596_grp.2.2.2.2.2.1
theorem dX12_init_609 : decode cX12_init 609 = .ok (.newarray .int, 2) := dX12_init_596_grp.2.2.2.2.2.2.1
theorem dX12_init_611 : decode cX12_init 611 = .ok (.putfield 387, 3) := dX12_init_596_grp.2.2.2.2.2.2.2.1
theorem dX12_init_614 : decode cX12_init 614 = .ok (.aload_n 0, 1) := dX12_init_596_grp.2.2.2.2.2.2.2.2
theorem dX12_init_615_grp : (decode cX12_init 615 = .ok (.sipush 128, 3)) ∧ (decode cX12_init 618 = .ok (.newarray .int, 2)) ∧ (decode cX12_init 620 = .ok (.putfield 390, 3)) ∧ (decode cX12_init 623 = .ok (.aload_n 0, 1)) ∧ (decode cX12_init 624 = .ok (.sipush 128, 3)) ∧ (decode cX12_init 627 = .ok (.newarray .int, 2)) ∧ (decode cX12_init 629 = .ok (.putfield 393, 3)) ∧ (decode cX12_init 632 = .ok (.aload_n 0, 1)) ∧ (decode cX12_init 633 = .ok (.sipush 128, 3)) := by decide +kernel
theorem dX12_init_615 : decode cX12_init 615 = .ok (.sipush 128, 3) := dX12_init_615_grp.1
theorem dX12_init_618 : decode cX12_init 618 = .ok (.newarray .int, 2) := dX12_init_615_grp.2.1
theorem dX12_init_620 : decode cX12_init 620 = .ok (.putfield 390, 3) := dX12_init_615_grp.2.2.1
theorem dX12_init_623 : decode cX12_init 623 = .ok (.aload_n 0, 1) := dX12_init_615_grp.2.2.2.1
theorem dX12_init_624 : decode cX12_init 624 = .ok (.sipush 128, 3) := dX12_init_615_grp.2.2.2.2.1
theorem dX12_init_627 : decode cX12_init 627 = .ok (.newarray .int, 2) := dX12_init_615_grp.2.2.2.2.2.1
theorem dX12_init_629 : decode cX12_init 629 = .ok (.putfield 393, 3) := dX12_init_615_grp.2.2.2.2.2.2.1
theorem dX12_init_632 : decode cX12_init 632 = .ok (.aload_n 0, 1) := dX12_init_615_grp.2.2.2.2.2.2.2.1
theorem dX12_init_633 : decode cX12_init 633 = .ok (.sipush 128, 3) := dX12_init_615_grp.2.2.2.2.2.2.2.2
theorem dX12_init_636_grp : (decode cX12_init 636 = .ok (.newarray .int, 2)) ∧ (decode cX12_init 638 = .ok (.putfield 396, 3)) ∧ (decode cX12_init 641 = .ok (.aload_n 0, 1)) ∧ (decode cX12_init 642 = .ok (.sipush 128, 3)) ∧ (decode cX12_init 645 = .ok (.newarray .int, 2)) ∧ (decode cX12_init 647 = .ok (.putfield 399, 3)) ∧ (decode cX12_init 650 = .ok (.aload_n 0, 1)) ∧ (decode cX12_init 651 = .ok (.sipush 1000, 3)) ∧ (decode cX12_init 654 = .ok (.newarray .int, 2)) := by decide +kernel
theorem dX12_init_636 : decode cX12_init 636 = .ok (.newarray .int, 2) := dX12_init_636_grp.1
theorem dX12_init_638 : decode cX12_init 638 = .ok (.putfield 396, 3) := dX12_init_636_grp.2.1
theorem dX12_init_641 : decode cX12_init 641 = .ok (.aload_n 0, 1) := dX12_init_636_grp.2.2.1
theorem dX12_init_642 : decode cX12_init 642 = .ok (.sipush 128, 3) := dX12_init_636_grp.2.2.2.1
theorem dX12_init_645 : decode cX12_init 645 = .ok (.newarray .int, 2) := dX12_init_636_grp.2.2.2.2.1
theorem dX12_init_647 : decode cX12_init 647 = .ok (.putfield 399, 3) := dX12_init_636_grp.2.2.2.2.2.1
theorem dX12_init_650 : decode cX12_init 650 = .ok (.aload_n 0, 1) := dX12_init_636_grp.2.2.2.2.2.2.1
theorem dX12_init_651 : decode cX12_init 651 = .ok (.sipush 1000, 3) := dX12_init_636_grp.2.2.2.2.2.2.2.1
theorem dX12_init_654 : decode cX12_init 654 = .ok (.newarray .int, 2) := dX12_init_636_grp.2.2.2.2.2.2.2.2
theorem dX12_init_656_grp : (decode cX12_init 656 = .ok (.putfield 402, 3)) ∧ (decode cX12_init 659 = .ok (.aload_n 0, 1)) ∧ (decode cX12_init 660 = .ok (.sipush 1001, 3)) ∧ (decode cX12_init 663 = .ok (.newarray .boolean, 2)) ∧ (decode cX12_init 665 = .ok (.putfield 405, 3)) ∧ (decode cX12_init 668 = .ok (.aload_n 0, 1)) ∧ (decode cX12_init 669 = .ok (.sipush 1000, 3)) ∧ (decode cX12_init 672 = .ok (.newarray .int, 2)) ∧ (decode cX12_init 674 = .ok (.putfield 408, 3)) := by decide +kernel
theorem dX12_init_656 : decode cX12_init 656 = .ok (.putfield 402, 3) := dX12_init_656_grp.1
theorem dX12_init_659 : decode cX12_init 659 = .ok (.aload_n 0, 1) := dX12_init_656_grp.2.1
theorem dX12_init_660 : decode cX12_init 660 = .ok (.sipush 1001, 3) := dX12_init_656_grp.2.2.1
theorem dX12_init_663 : decode cX12_init 663 = .ok (.newarray .boolean, 2) := dX12_init_656_grp.2.2.2.1
theorem dX12_init_665 : decode cX12_init 665 = .ok (.putfield 405, 3) := dX12_init_656_grp.2.2.2.2.1
theorem dX12_init_668 : decode cX12_init 668 = .ok (.aload_n 0, 1) := dX12_init_656_grp.2.2.2.2.2.1
theorem dX12_init_669 : decode cX12_init 669 = .ok (.sipush 1000, 3) := dX12_init_656_grp.2.2.2.2.2.2.1
theorem dX12_init_672 : decode cX12_init 672 = .ok (.newarray .int, 2) := dX12_init_656_grp.2.2.2.2.2.2.2.1
theorem dX12_init_674 : decode cX12_init 674 = .ok (.putfield 408, 3) := dX12_init_656_grp.2.2.2.2.2.2.2.2
theorem dX12_init_677_grp : (decode cX12_init 677 = .ok (.aload_n 0, 1)) ∧ (decode cX12_init 678 = .ok (.bipush 101, 2)) ∧ (decode cX12_init 680 = .ok (.newarray .int, 2)) ∧ (decode cX12_init 682 = .ok (.putfield 411, 3)) ∧ (decode cX12_init 685 = .ok (.aload_n 0, 1)) ∧ (decode cX12_init 686 = .ok (.bipush 101, 2)) ∧ (decode cX12_init 688 = .ok (.newarray .int, 2)) ∧ (decode cX12_init 690 = .ok (.putfield 414, 3)) ∧ (decode cX12_init 693 = .ok (.aload_n 0, 1)) := by decide +kernel
theorem dX12_init_677 : decode cX12_init 677 = .ok (.aload_n 0, 1) := dX12_init_677_grp.1
theorem dX12_init_678 : decode cX12_init 678 = .ok (.bipush 101, 2) := dX12_init_677_grp.2.1
theorem dX12_init_680 : decode cX12_init 680 = .ok (.newarray .int, 2) := dX12_init_677_grp.2.2.1
theorem dX12_init_682 : decode cX12_init 682 = .ok (.putfield 411, 3) := dX12_init_677_grp.2.2.2.1
theorem dX12_init_685 : decode cX12_init 685 = .ok (.aload_n 0, 1) := dX12_init_677_grp.2.2.2.2.1
theorem dX12_init_686 : decode cX12_init 686 = .ok (.bipush 101, 2) := dX12_init_677_grp.2.2.2.2.2.1
theorem dX12_init_688 : decode cX12_init 688 = .ok (.newarray .int, 2) := dX12_init_677_grp.2.2.2.2.2.2.1
theorem dX12_init_690 : decode cX12_init 690 = .ok (.putfield 414, 3) := dX12_init_677_grp.2.2.2.2.2.2.2.1
theorem dX12_init_693 : decode cX12_init 693 = .ok (.aload_n 0, 1) := dX12_init_677_grp.2.2.2.2.2.2.2.2
theorem dX12_init_694_grp : (decode cX12_init 694 = .ok (.bipush 101, 2)) ∧ (decode cX12_init 696 = .ok (.newarray .int, 2)) ∧ (decode cX12_init 698 = .ok (.putfield 417, 3)) ∧ (decode cX12_init 701 = .ok (.aload_n 0, 1)) ∧ (decode cX12_init 702 = .ok (.bipush 101, 2)) ∧ (decode cX12_init 704 = .ok (.newarray .int, 2)) ∧ (decode cX12_init 706 = .ok (.putfield 420, 3)) ∧ (decode cX12_init 709 = .ok (.aload_n 0, 1)) ∧ (decode cX12_init 710 = .ok (.bipush 101, 2)) := by decide +kernel
theorem dX12_init_694 : decode cX12_init 694 = .ok (.bipush 101, 2) := dX12_init_694_grp.1
theorem dX12_init_696 : decode cX12_init 696 = .ok (.newarray .int, 2) := dX12_init_694_grp.2.1
theorem dX12_init_698 : decode cX12_init 698 = .ok (.putfield 417, 3) := dX12_init_694_grp.2.2.1
theorem dX12_init_701 : decode cX12_init 701 = .ok (.aload_n 0, 1) := dX12_init_694_grp.2.2.2.1
theorem dX12_init_702 : decode cX12_init 702 = .ok (.bipush 101, 2) := dX12_init_694_grp.2.2.2.2.1
theorem dX12_init_704 : decode cX12_init 704 = .ok (.newarray .int, 2) := dX12_init_694_grp.2.2.2.2.2.1
theorem dX12_init_706 : decode cX12_init 706 = .ok (.putfield 420, 3) := dX12_init_694_grp.2.2.2.2.2.2.1
theorem dX12_init_709 : decode cX12_init 709 = .ok (.aload_n 0, 1) := dX12_init_694_grp.2.2.2.2.2.2.2.1
theorem dX12_init_710 : decode cX12_init 710 = .ok (.bipush 101, 2) := dX12_init_694_grp.2.2.2.2.2.2.2.2
theorem dX12_init_712_grp : (decode cX12_init 712 = .ok (.newarray .int, 2)) ∧ (decode cX12_init 714 = .ok (.putfield 423, 3)) ∧ (decode cX12_init 717 = .ok (.aload_n 0, 1)) ∧ (decode cX12_init 718 = .ok (.bipush 101, 2)) ∧ (decode cX12_init 720 = .ok (.newarray .int, 2)) ∧ (decode cX12_init 722 = .ok (.putfield 426, 3)) ∧ (decode cX12_init 725 = .ok (.aload_n 0, 1)) ∧ (decode cX12_init 726 = .ok (.bipush 101, 2)) ∧ (decode cX12_init 728 = .ok (.newarray .int, 2)) := by decide +kernel
theorem dX12_init_712 : decode cX12_init 712 = .ok (.newarray .int, 2) := dX12_init_712_grp.1
theorem dX12_init_714 : decode cX12_init 714 = .ok (.putfield 423, 3) := dX12_init_712_grp.2.1
theorem dX12_init_717 : decode cX12_init 717 = .ok (.aload_n 0, 1) := dX12_init_712_grp.2.2.1
theorem dX12_init_718 : decode cX12_init 718 = .ok (.bipush 101, 2) := dX12_init_712_grp.2.2.2.1
theorem dX12_init_720 : decode cX12_init 720 = .ok (.newarray .int, 2) := dX12_init_712_grp.2.2.2.2.1
theorem dX12_init_722 : decode cX12_init 722 = .ok (.putfield 426, 3) := dX12_init_712_grp.2.2.2.2.2.1
theorem dX12_init_725 : decode cX12_init 725 = .ok (.aload_n 0, 1) := dX12_init_712_grp.2.2.2.2.2.2.1
theorem dX12_init_726 : decode cX12_init 726 = .ok (.bipush 101, 2) := dX12_init_712_grp.2.2.2.2.2.2.2.1
theorem dX12_init_728 : decode cX12_init 728 = .ok (.newarray .int, 2) := dX12_init_712_grp.2.2.2.2.2.2.2.2
theorem dX12_init_730_grp : (decode cX12_init 730 = .ok (.putfield 429, 3)) ∧ (decode cX12_init 733 = .ok (.aload_n 0, 1)) ∧ (decode cX12_init 734 = .ok (.getfield 387, 3)) ∧ (decode cX12_init 737 = .ok (.iconst 0, 1)) ∧ (decode cX12_init 738 = .ok (.iconst 1, 1)) ∧ (decode cX12_init 739 = .ok (.iastore, 1)) ∧ (decode cX12_init 740 = .ok (.return_, 1)) := by decide +kernel
theorem dX12_init_730 : decode cX12_init 730 = .ok (.putfield 429, 3) := dX12_init_730_grp.1
theorem dX12_init_733 : decode cX12_init 733 = .ok (.aload_n 0, 1) := dX12_init_730_grp.2.1
theorem dX12_init_734 : decode cX12_init 734 = .ok (.getfield 387, 3) := dX12_init_730_grp.2.2.1
theorem dX12_init_737 : decode cX12_init 737 = .ok (.iconst 0, 1) := dX12_init_730_grp.2.2.2.1
theorem dX12_init_738 : decode cX12_init 738 = .ok (.iconst 1, 1) := dX12_init_730_grp.2.2.2.2.1
theorem dX12_init_739 : decode cX12_init 739 = .ok (.iastore, 1) := dX12_init_730_grp.2.2.2.2.2.1
theorem dX12_init_740 : decode cX12_init 740 = .ok (.return_, 1) := dX12_init_730_grp.2.2.2.2.2.2
theorem dX12_floorOf_0 : decode cX12_floorOf 0 = .ok (.iload_n 0, 1) := by decide +kernel
theorem dX12_floorOf_1 : decode cX12_floorOf 1 = .ok (.ifCond .lt 9, 3) := by decide +kernel
theorem dX12_floorOf_4 : decode cX12_floorOf 4 = .ok (.iload_n 0, 1) := by decide +kernel
theorem dX12_floorOf_5 : decode cX12_floorOf 5 = .ok (.iload_n 1, 1) := by decide +kernel
theorem dX12_floorOf_6 : decode cX12_floorOf 6 = .ok (.idiv, 1) := by decide +kernel
theorem dX12_floorOf_7 : decode cX12_floorOf 7 = .ok (.goto 11, 3) := by decide +kernel
theorem dX12_floorOf_10 : decode cX12_floorOf 10 = .ok (.iload_n 1, 1) := by decide +kernel
theorem dX12_floorOf_11 : decode cX12_floorOf 11 = .ok (.iconst 1, 1) := by decide +kernel
theorem dX12_floorOf_12 : decode cX12_floorOf 12 = .ok (.isub, 1) := by decide +kernel
theorem dX12_floorOf_13 : decode cX12_floorOf 13 = .ok (.iload_n 0, 1) := by decide +kernel
theorem dX12_floorOf_14 : decode cX12_floorOf 14 = .ok (.isub, 1) := by decide +kernel
theorem dX12_floorOf_15 : decode cX12_floorOf 15 = .ok (.iload_n 1, 1) := by decide +kernel
theorem dX12_floorOf_16 : decode cX12_floorOf 16 = .ok (.idiv, 1) := by decide +kernel
theorem dX12_floorOf_17 : decode cX12_floorOf 17 = .ok (.ineg, 1) := by decide +kernel
theorem dX12_floorOf_18 : decode cX12_floorOf 18 = .ok (.ireturn, 1) := by decide +kernel
theorem dX12_goesOn_0 : decode cX12_goesOn 0 = .ok (.aload_n 0, 1) := by decide +kernel
theorem dX12_goesOn_1 : decode cX12_goesOn 1 = .ok (.dup, 1) := by decide +kernel
theorem dX12_goesOn_2 : decode cX12_goesOn 2 = .ok (.getfield 432, 3) := by decide +kernel
theorem dX12_goesOn_5 : decode cX12_goesOn 5 = .ok (.iconst 1, 1) := by decide +kernel
theorem dX12_goesOn_6 : decode cX12_goesOn 6 = .ok (.iadd, 1) := by decide +kernel
theorem dX12_goesOn_7 : decode cX12_goesOn 7 = .ok (.putfield 432, 3) := by decide +kernel
theorem dX12_goesOn_10 : decode cX12_goesOn 10 = .ok (.aload_n 0, 1) := by decide +kernel
theorem dX12_goesOn_11 : decode cX12_goesOn 11 = .ok (.getfield 381, 3) := by decide +kernel
theorem dX12_goesOn_14 : decode cX12_goesOn 14 = .ok (.aload_n 0, 1) := by decide +kernel
theorem dX12_goesOn_15 : decode cX12_goesOn 15 = .ok (.getfield 432, 3) := by decide +kernel
