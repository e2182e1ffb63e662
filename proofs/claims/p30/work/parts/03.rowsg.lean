theorem dX12_quarrels_29 : decode cX12_quarrels 29 = .ok (.if_icmp .ne 10, 3) := by decide +kernel
theorem dX12_quarrels_32 : decode cX12_quarrels 32 = .ok (.aload_n 0, 1) := by decide +kernel
theorem dX12_quarrels_33 : decode cX12_quarrels 33 = .ok (.getfield 559, 3) := by decide +kernel
theorem dX12_quarrels_36 : decode cX12_quarrels 36 = .ok (.goto 4, 3) := by decide +kernel
theorem dX12_quarrels_39 : decode cX12_quarrels 39 = .ok (.iload_n 2, 1) := by decide +kernel
theorem dX12_quarrels_40 : decode cX12_quarrels 40 = .ok (.invokevirtual 568, 3) := by decide +kernel
theorem dX12_quarrels_43 : decode cX12_quarrels 43 = .ok (.ireturn, 1) := by decide +kernel
theorem dX12_notesLikely_0 : decode cX12_notesLikely 0 = .ok (.aload_n 0, 1) := by decide +kernel
theorem dX12_notesLikely_1 : decode cX12_notesLikely 1 = .ok (.getfield 504, 3) := by decide +kernel
theorem dX12_notesLikely_4 : decode cX12_notesLikely 4 = .ok (.ifCond .eq 30, 3) := by decide +kernel
theorem dX12_notesLikely_7 : decode cX12_notesLikely 7 = .ok (.aload_n 0, 1) := by decide +kernel
theorem dX12_notesLikely_8 : decode cX12_notesLikely 8 = .ok (.aload_n 0, 1) := by decide +kernel
theorem dX12_notesLikely_9 : decode cX12_notesLikely 9 = .ok (.getfield 508, 3) := by decide +kernel
theorem dX12_notesLikely_12 : decode cX12_notesLikely 12 = .ok (.aload_n 0, 1) := by decide +kernel
theorem dX12_notesLikely_13 : decode cX12_notesLikely 13 = .ok (.getfield 511, 3) := by decide +kernel
theorem dX12_notesLikely_16 : decode cX12_notesLikely 16 = .ok (.aload_n 0, 1) := by decide +kernel
theorem dX12_notesLikely_17 : decode cX12_notesLikely 17 = .ok (.getfield 514, 3) := by decide +kernel
theorem dX12_notesLikely_20 : decode cX12_notesLikely 20 = .ok (.aload_n 0, 1) := by decide +kernel
theorem dX12_notesLikely_21 : decode cX12_notesLikely 21 = .ok (.getfield 517, 3) := by decide +kernel
theorem dX12_notesLikely_24 : decode cX12_notesLikely 24 = .ok (.aload_n 0, 1) := by decide +kernel
theorem dX12_notesLikely_25 : decode cX12_notesLikely 25 = .ok (.getfield 520, 3) := by decide +kernel
theorem dX12_notesLikely_28 : decode cX12_notesLikely 28 = .ok (.invokevirtual 500, 3) := by decide +kernel
theorem dX12_notesLikely_31 : decode cX12_notesLikely 31 = .ok (.ifCond .ne 5, 3) := by decide +kernel
theorem dX12_notesLikely_34 : decode cX12_notesLikely 34 = .ok (.iconst 0, 1) := by decide +kernel
theorem dX12_notesLikely_35 : decode cX12_notesLikely 35 = .ok (.ireturn, 1) := by decide +kernel
theorem dX12_notesLikely_36 : decode cX12_notesLikely 36 = .ok (.iconst 0, 1) := by decide +kernel
theorem dX12_notesLikely_37 : decode cX12_notesLikely 37 = .ok (.istore_n 1, 1) := by decide +kernel
theorem dX12_notesLikely_38 : decode cX12_notesLikely 38 = .ok (.iload_n 1, 1) := by decide +kernel
theorem dX12_notesLikely_39 : decode cX12_notesLikely 39 = .ok (.aload_n 0, 1) := by decide +kernel
theorem dX12_notesLikely_40 : decode cX12_notesLikely 40 = .ok (.getfield 559, 3) := by decide +kernel
theorem dX12_notesLikely_43 : decode cX12_notesLikely 43 = .ok (.if_icmp .gt 17, 3) := by decide +kernel
theorem dX12_notesLikely_46 : decode cX12_notesLikely 46 = .ok (.aload_n 0, 1) := by decide +kernel
theorem dX12_notesLikely_47 : decode cX12_notesLikely 47 = .ok (.getfield 426, 3) := by decide +kernel
theorem dX12_notesLikely_50 : decode cX12_notesLikely 50 = .ok (.iload_n 1, 1) := by decide +kernel
theorem dX12_notesLikely_51 : decode cX12_notesLikely 51 = .ok (.ldc 249, 2) := by decide +kernel
theorem dX12_notesLikely_53 : decode cX12_notesLikely 53 = .ok (.iastore, 1) := by decide +kernel
theorem dX12_notesLikely_54 : decode cX12_notesLikely 54 = .ok (.iinc 1 1, 3) := by decide +kernel
theorem dX12_notesLikely_57 : decode cX12_notesLikely 57 = .ok (.goto (-19), 3) := by decide +kernel
theorem dX12_notesLikely_60 : decode cX12_notesLikely 60 = .ok (.iconst 0, 1) := by decide +kernel
theorem dX12_notesLikely_61 : decode cX12_notesLikely 61 = .ok (.istore_n 1, 1) := by decide +kernel
theorem dX12_notesLikely_62 : decode cX12_notesLikely 62 = .ok (.iload_n 1, 1) := by decide +kernel
theorem dX12_notesLikely_63 : decode cX12_notesLikely 63 = .ok (.aload_n 0, 1) := by decide +kernel
theorem dX12_notesLikely_64 : decode cX12_notesLikely 64 = .ok (.invokevirtual 532, 3) := by decide +kernel
theorem dX12_notesLikely_67 : decode cX12_notesLikely 67 = .ok (.if_icmp .ge 64, 3) := by decide +kernel
theorem dX12_notesLikely_70 : decode cX12_notesLikely 70 = .ok (.aload_n 0, 1) := by decide +kernel
theorem dX12_notesLikely_71 : decode cX12_notesLikely 71 = .ok (.iload_n 1, 1) := by decide +kernel
theorem dX12_notesLikely_72 : decode cX12_notesLikely 72 = .ok (.invokevirtual 565, 3) := by decide +kernel
theorem dX12_notesLikely_75 : decode cX12_notesLikely 75 = .ok (.pop, 1) := by decide +kernel
theorem dX12_notesLikely_76 : decode cX12_notesLikely 76 = .ok (.iconst 0, 1) := by decide +kernel
theorem dX12_notesLikely_77 : decode cX12_notesLikely 77 = .ok (.istore_n 2, 1) := by decide +kernel
theorem dX12_notesLikely_78 : decode cX12_notesLikely 78 = .ok (.iload_n 2, 1) := by decide +kernel
theorem dX12_notesLikely_79 : decode cX12_notesLikely 79 = .ok (.aload_n 0, 1) := by decide +kernel
theorem dX12_notesLikely_80 : decode cX12_notesLikely 80 = .ok (.getfield 559, 3) := by decide +kernel
theorem dX12_notesLikely_83 : decode cX12_notesLikely 83 = .ok (.if_icmp .gt 42, 3) := by decide +kernel
theorem dX12_notesLikely_86 : decode cX12_notesLikely 86 = .ok (.aload_n 0, 1) := by decide +kernel
theorem dX12_notesLikely_87 : decode cX12_notesLikely 87 = .ok (.iload_n 2, 1) := by decide +kernel
theorem dX12_notesLikely_88 : decode cX12_notesLikely 88 = .ok (.invokevirtual 568, 3) := by decide +kernel
theorem dX12_notesLikely_91 : decode cX12_notesLikely 91 = .ok (.istore_n 3, 1) := by decide +kernel
theorem dX12_notesLikely_92 : decode cX12_notesLikely 92 = .ok (.iload_n 3, 1) := by decide +kernel
theorem dX12_notesLikely_93 : decode cX12_notesLikely 93 = .ok (.aload_n 0, 1) := by decide +kernel
theorem dX12_notesLikely_94 : decode cX12_notesLikely 94 = .ok (.getfield 426, 3) := by decide +kernel
theorem dX12_notesLikely_97 : decode cX12_notesLikely 97 = .ok (.iload_n 2, 1) := by decide +kernel
theorem dX12_notesLikely_98 : decode cX12_notesLikely 98 = .ok (.iaload, 1) := by decide +kernel
theorem dX12_notesLikely_99 : decode cX12_notesLikely 99 = .ok (.if_icmp .lt 6, 3) := by decide +kernel
theorem dX12_notesLikely_102 : decode cX12_notesLikely 102 = .ok (.goto 17, 3) := by decide +kernel
theorem dX12_notesLikely_105 : decode cX12_notesLikely 105 = .ok (.aload_n 0, 1) := by decide +kernel
theorem dX12_notesLikely_106 : decode cX12_notesLikely 106 = .ok (.getfield 426, 3) := by decide +kernel
theorem dX12_notesLikely_109 : decode cX12_notesLikely 109 = .ok (.iload_n 2, 1) := by decide +kernel
theorem dX12_notesLikely_110 : decode cX12_notesLikely 110 = .ok (.iload_n 3, 1) := by decide +kernel
theorem dX12_notesLikely_111 : decode cX12_notesLikely 111 = .ok (.iastore, 1) := by decide +kernel
theorem dX12_notesLikely_112 : decode cX12_notesLikely 112 = .ok (.aload_n 0, 1) := by decide +kernel
theorem dX12_notesLikely_113 : decode cX12_notesLikely 113 = .ok (.getfield 429, 3) := by decide +kernel
theorem dX12_notesLikely_116 : decode cX12_notesLikely 116 = .ok (.iload_n 2, 1) := by decide +kernel
theorem dX12_notesLikely_117 : decode cX12_notesLikely 117 = .ok (.iload_n 1, 1) := by decide +kernel
theorem dX12_notesLikely_118 : decode cX12_notesLikely 118 = .ok (.iastore, 1) := by decide +kernel
theorem dX12_notesLikely_119 : decode cX12_notesLikely 119 = .ok (.iinc 2 1, 3) := by decide +kernel
theorem dX12_notesLikely_122 : decode cX12_notesLikely 122 = .ok (.goto (-44), 3) := by decide +kernel
theorem dX12_notesLikely_125 : decode cX12_notesLikely 125 = .ok (.iinc 1 1, 3) := by decide +kernel
theorem dX12_notesLikely_128 : decode cX12_notesLikely 128 = .ok (.goto (-66), 3) := by decide +kernel
theorem dX12_notesLikely_131 : decode cX12_notesLikely 131 = .ok (.iconst 1, 1) := by decide +kernel
theorem dX12_notesLikely_132 : decode cX12_notesLikely 132 = .ok (.ireturn, 1) := by decide +kernel
theorem dX12_likely_0 : decode cX12_likely 0 = .ok (.aload_n 0, 1) := by decide +kernel
theorem dX12_likely_1 : decode cX12_likely 1 = .ok (.iload_n 1, 1) := by decide +kernel
theorem dX12_likely_2 : decode cX12_likely 2 = .ok (.invokevirtual 562, 3) := by decide +kernel
theorem dX12_likely_5 : decode cX12_likely 5 = .ok (.ifCond .eq 31, 3) := by decide +kernel
theorem dX12_likely_8 : decode cX12_likely 8 = .ok (.aload_n 0, 1) := by decide +kernel
theorem dX12_likely_9 : decode cX12_likely 9 = .ok (.invokevirtual 571, 3) := by decide +kernel
theorem dX12_likely_12 : decode cX12_likely 12 = .ok (.ifCond .eq 24, 3) := by decide +kernel
theorem dX12_likely_15 : decode cX12_likely 15 = .ok (.aload_n 0, 1) := by decide +kernel
theorem dX12_likely_16 : decode cX12_likely 16 = .ok (.getfield 429, 3) := by decide +kernel
theorem dX12_likely_19 : decode cX12_likely 19 = .ok (.iload_n 1, 1) := by decide +kernel
theorem dX12_likely_20 : decode cX12_likely 20 = .ok (.iconst (-1), 1) := by decide +kernel
theorem dX12_likely_21 : decode cX12_likely 21 = .ok (.if_icmp .ne 10, 3) := by decide +kernel
theorem dX12_likely_24 : decode cX12_likely 24 = .ok (.aload_n 0, 1) := by decide +kernel
theorem dX12_likely_25 : decode cX12_likely 25 = .ok (.getfield 559, 3) := by decide +kernel
theorem dX12_likely_28 : decode cX12_likely 28 = .ok (.goto 4, 3) := by decide +kernel
theorem dX12_likely_31 : decode cX12_likely 31 = .ok (.iload_n 1, 1) := by decide +kernel
theorem dX12_likely_32 : decode cX12_likely 32 = .ok (.iaload, 1) := by decide +kernel
theorem dX12_likely_33 : decode cX12_likely 33 = .ok (.goto 4, 3) := by decide +kernel
theorem dX12_likely_36 : decode cX12_likely 36 = .ok (.iconst (-1), 1) := by decide +kernel
theorem dX12_likely_37 : decode cX12_likely 37 = .ok (.ireturn, 1) := by decide +kernel
theorem dX12_since_0 : decode cX12_since 0 = .ok (.aload_n 0, 1) := by decide +kernel
theorem dX12_since_1 : decode cX12_since 1 = .ok (.invokevirtual 571, 3) := by decide +kernel
theorem dX12_since_4 : decode cX12_since 4 = .ok (.ifCond .ne 5, 3) := by decide +kernel
theorem dX12_since_7 : decode cX12_since 7 = .ok (.iconst (-1), 1) := by decide +kernel
theorem dX12_since_8 : decode cX12_since 8 = .ok (.ireturn, 1) := by decide +kernel
theorem dX12_since_9 : decode cX12_since 9 = .ok (.aload_n 0, 1) := by decide +kernel
theorem dX12_since_10 : decode cX12_since 10 = .ok (.getfield 559, 3) := by decide +kernel
theorem dX12_since_13 : decode cX12_since 13 = .ok (.istore_n 1, 1) := by decide +kernel
theorem dX12_since_14 : decode cX12_since 14 = .ok (.iload_n 1, 1) := by decide +kernel
theorem dX12_since_15 : decode cX12_since 15 = .ok (.ifCond .le 29, 3) := by decide +kernel
theorem dX12_since_18 : decode cX12_since 18 = .ok (.aload_n 0, 1) := by decide +kernel
theorem dX12_since_19 : decode cX12_since 19 = .ok (.getfield 429, 3) := by decide +kernel
theorem dX12_since_22 : decode cX12_since 22 = .ok (.iload_n 1, 1) := by decide +kernel
theorem dX12_since_23 : decode cX12_since 23 = .ok (.iconst 1, 1) := by decide +kernel
theorem dX12_since_24 : decode cX12_since 24 = .ok (.isub, 1) := by decide +kernel
theorem dX12_since_25 : decode cX12_since 25 = .ok (.iaload, 1) := by decide +kernel
theorem dX12_since_26 : decode cX12_since 26 = .ok (.aload_n 0, 1) := by decide +kernel
theorem dX12_since_27 : decode cX12_since 27 = .ok (.getfield 429, 3) := by decide +kernel
theorem dX12_since_30 : decode cX12_since 30 = .ok (.aload_n 0, 1) := by decide +kernel
theorem dX12_since_31 : decode cX12_since 31 = .ok (.getfield 559, 3) := by decide +kernel
theorem dX12_since_34 : decode cX12_since 34 = .ok (.iaload, 1) := by decide +kernel
theorem dX12_since_35 : decode cX12_since 35 = .ok (.if_icmp .ne 9, 3) := by decide +kernel
theorem dX12_since_38 : decode cX12_since 38 = .ok (.iinc 1 (-1), 3) := by decide +kernel
theorem dX12_since_41 : decode cX12_since 41 = .ok (.goto (-27), 3) := by decide +kernel
theorem dX12_since_44 : decode cX12_since 44 = .ok (.iload_n 1, 1) := by decide +kernel
theorem dX12_since_45 : decode cX12_since 45 = .ok (.ireturn, 1) := by decide +kernel
theorem dX12_all_0 : decode cX12_all 0 = .ok (.iconst 0, 1) := by decide +kernel
theorem dX12_all_1 : decode cX12_all 1 = .ok (.istore_n 2, 1) := by decide +kernel
theorem dX12_all_2 : decode cX12_all 2 = .ok (.iload_n 1, 1) := by decide +kernel
theorem dX12_all_3 : decode cX12_all 3 = .ok (.tableswitch 136 0 5 #[37, 65, 93, 121, 126, 131], 37) := by decide +kernel
theorem dX12_all_40 : decode cX12_all 40 = .ok (.iconst 0, 1) := by decide +kernel
theorem dX12_all_41 : decode cX12_all 41 = .ok (.istore_n 3, 1) := by decide +kernel
theorem dX12_all_42 : decode cX12_all 42 = .ok (.iload_n 3, 1) := by decide +kernel
theorem dX12_all_43 : decode cX12_all 43 = .ok (.bipush 8, 2) := by decide +kernel
theorem dX12_all_45 : decode cX12_all 45 = .ok (.if_icmp .ge 21, 3) := by decide +kernel
theorem dX12_all_48 : decode cX12_all 48 = .ok (.aload_n 0, 1) := by decide +kernel
theorem dX12_all_49 : decode cX12_all 49 = .ok (.getfield 49, 3) := by decide +kernel
theorem dX12_all_52 : decode cX12_all 52 = .ok (.iload_n 3, 1) := by decide +kernel
theorem dX12_all_53 : decode cX12_all 53 = .ok (.baload, 1) := by decide +kernel
theorem dX12_all_54 : decode cX12_all 54 = .ok (.ifCond .eq 6, 3) := by decide +kernel
theorem dX12_all_57 : decode cX12_all 57 = .ok (.iinc 2 1, 3) := by decide +kernel
theorem dX12_all_60 : decode cX12_all 60 = .ok (.iinc 3 1, 3) := by decide +kernel
theorem dX12_all_63 : decode cX12_all 63 = .ok (.goto (-21), 3) := by decide +kernel
theorem dX12_all_66 : decode cX12_all 66 = .ok (.iload_n 2, 1) := by decide +kernel
theorem dX12_all_67 : decode cX12_all 67 = .ok (.ireturn, 1) := by decide +kernel
theorem dX12_all_68 : decode cX12_all 68 = .ok (.iconst 0, 1) := by decide +kernel
theorem dX12_all_69 : decode cX12_all 69 = .ok (.istore_n 3, 1) := by decide +kernel
theorem dX12_all_70 : decode cX12_all 70 = .ok (.iload_n 3, 1) := by decide +kernel
theorem dX12_all_71 : decode cX12_all 71 = .ok (.bipush 12, 2) := by decide +kernel
theorem dX12_all_73 : decode cX12_all 73 = .ok (.if_icmp .ge 21, 3) := by decide +kernel
theorem dX12_all_76 : decode cX12_all 76 = .ok (.aload_n 0, 1) := by decide +kernel
theorem dX12_all_77 : decode cX12_all 77 = .ok (.getfield 60, 3) := by decide +kernel
theorem dX12_all_80 : decode cX12_all 80 = .ok (.iload_n 3, 1) := by decide +kernel
theorem dX12_all_81 : decode cX12_all 81 = .ok (.baload, 1) := by decide +kernel
theorem dX12_all_82 : decode cX12_all 82 = .ok (.ifCond .eq 6, 3) := by decide +kernel
theorem dX12_all_85 : decode cX12_all 85 = .ok (.iinc 2 1, 3) := by decide +kernel
theorem dX12_all_88 : decode cX12_all 88 = .ok (.iinc 3 1, 3) := by decide +kernel
theorem dX12_all_91 : decode cX12_all 91 = .ok (.goto (-21), 3) := by decide +kernel
theorem dX12_all_94 : decode cX12_all 94 = .ok (.iload_n 2, 1) := by decide +kernel
theorem dX12_all_95 : decode cX12_all 95 = .ok (.ireturn, 1) := by decide +kernel
theorem dX12_all_96 : decode cX12_all 96 = .ok (.iconst 0, 1) := by decide +kernel
theorem dX12_all_97 : decode cX12_all 97 = .ok (.istore_n 3, 1) := by decide +kernel
theorem dX12_all_98 : decode cX12_all 98 = .ok (.iload_n 3, 1) := by decide +kernel
theorem dX12_all_99 : decode cX12_all 99 = .ok (.bipush 8, 2) := by decide +kernel
theorem dX12_all_101 : decode cX12_all 101 = .ok (.if_icmp .ge 21, 3) := by decide +kernel
theorem dX12_all_104 : decode cX12_all 104 = .ok (.aload_n 0, 1) := by decide +kernel
theorem dX12_all_105 : decode cX12_all 105 = .ok (.getfield 78, 3) := by decide +kernel
theorem dX12_all_108 : decode cX12_all 108 = .ok (.iload_n 3, 1) := by decide +kernel
theorem dX12_all_109 : decode cX12_all 109 = .ok (.baload, 1) := by decide +kernel
theorem dX12_all_110 : decode cX12_all 110 = .ok (.ifCond .eq 6, 3) := by decide +kernel
theorem dX12_all_113 : decode cX12_all 113 = .ok (.iinc 2 1, 3) := by decide +kernel
theorem dX12_all_116 : decode cX12_all 116 = .ok (.iinc 3 1, 3) := by decide +kernel
theorem dX12_all_119 : decode cX12_all 119 = .ok (.goto (-21), 3) := by decide +kernel
theorem dX12_all_122 : decode cX12_all 122 = .ok (.iload_n 2, 1) := by decide +kernel
theorem dX12_all_123 : decode cX12_all 123 = .ok (.ireturn, 1) := by decide +kernel
theorem dX12_all_124 : decode cX12_all 124 = .ok (.aload_n 0, 1) := by decide +kernel
theorem dX12_all_125 : decode cX12_all 125 = .ok (.getfield 559, 3) := by decide +kernel
theorem dX12_all_128 : decode cX12_all 128 = .ok (.ireturn, 1) := by decide +kernel
theorem dX12_all_129 : decode cX12_all 129 = .ok (.aload_n 0, 1) := by decide +kernel
theorem dX12_all_130 : decode cX12_all 130 = .ok (.invokevirtual 532, 3) := by decide +kernel
theorem dX12_all_133 : decode cX12_all 133 = .ok (.ireturn, 1) := by decide +kernel
theorem dX12_all_134 : decode cX12_all 134 = .ok (.aload_n 0, 1) := by decide +kernel
theorem dX12_all_135 : decode cX12_all 135 = .ok (.getfield 464, 3) := by decide +kernel
theorem dX12_all_138 : decode cX12_all 138 = .ok (.ireturn, 1) := by decide +kernel
theorem dX12_all_139 : decode cX12_all 139 = .ok (.iconst (-1), 1) := by decide +kernel
theorem dX12_all_140 : decode cX12_all 140 = .ok (.ireturn, 1) := by decide +kernel
theorem dJ9_floorDiv_7cf53_0 : decode cJ9_floorDiv_7cf53 0 = .ok (.iload_n 0, 1) := by decide +kernel
theorem dJ9_floorDiv_7cf53_1 : decode cJ9_floorDiv_7cf53 1 = .ok (.iload_n 1, 1) := by decide +kernel
theorem dJ9_floorDiv_7cf53_2 : decode cJ9_floorDiv_7cf53 2 = .ok (.idiv, 1) := by decide +kernel
theorem dJ9_floorDiv_7cf53_3 : decode cJ9_floorDiv_7cf53 3 = .ok (.istore_n 2, 1) := by decide +kernel
theorem dJ9_floorDiv_7cf53_4 : decode cJ9_floorDiv_7cf53 4 = .ok (.iload_n 0, 1) := by decide +kernel
theorem dJ9_floorDiv_7cf53_5 : decode cJ9_floorDiv_7cf53 5 = .ok (.iload_n 1, 1) := by decide +kernel
theorem dJ9_floorDiv_7cf53_6 : decode cJ9_floorDiv_7cf53 6 = .ok (.ixor, 1) := by decide +kernel
theorem dJ9_floorDiv_7cf53_7 : decode cJ9_floorDiv_7cf53 7 = .ok (.ifCond .ge 14, 3) := by decide +kernel
theorem dJ9_floorDiv_7cf53_10 : decode cJ9_floorDiv_7cf53 10 = .ok (.iload_n 2, 1) := by decide +kernel
theorem dJ9_floorDiv_7cf53_11 : decode cJ9_floorDiv_7cf53 11 = .ok (.iload_n 1, 1) := by decide +kernel
theorem dJ9_floorDiv_7cf53_12 : decode cJ9_floorDiv_7cf53 12 = .ok (.imul, 1) := by decide +kernel
theorem dJ9_floorDiv_7cf53_13 : decode cJ9_floorDiv_7cf53 13 = .ok (.iload_n 0, 1) := by decide +kernel
theorem dJ9_floorDiv_7cf53_14 : decode cJ9_floorDiv_7cf53 14 = .ok (.if_icmp .eq 7, 3) := by decide +kernel
theorem dJ9_floorDiv_7cf53_17 : decode cJ9_floorDiv_7cf53 17 = .ok (.iload_n 2, 1) := by decide +kernel
theorem dJ9_floorDiv_7cf53_18 : decode cJ9_floorDiv_7cf53 18 = .ok (.iconst 1, 1) := by decide +kernel
theorem dJ9_floorDiv_7cf53_19 : decode cJ9_floorDiv_7cf53 19 = .ok (.isub, 1) := by decide +kernel
theorem dJ9_floorDiv_7cf53_20 : decode cJ9_floorDiv_7cf53 20 = .ok (.ireturn, 1) := by decide +kernel
theorem dJ9_floorDiv_7cf53_21 : decode cJ9_floorDiv_7cf53 21 = .ok (.iload_n 2, 1) := by decide +kernel
theorem dJ9_floorDiv_7cf53_22 : decode cJ9_floorDiv_7cf53 22 = .ok (.ireturn, 1) := by decide +kernel
theorem dJ9_abs_067f4_0 : decode cJ9_abs_067f4 0 = .ok (.lload_n 0, 1) := by decide +kernel
theorem dJ9_abs_067f4_1 : decode cJ9_abs_067f4 1 = .ok (.lconst 0, 1) := by decide +kernel
theorem dJ9_abs_067f4_2 : decode cJ9_abs_067f4 2 = .ok (.lcmp, 1) := by decide +kernel
theorem dJ9_abs_067f4_3 : decode cJ9_abs_067f4 3 = .ok (.ifCond .ge 8, 3) := by decide +kernel
theorem dJ9_abs_067f4_6 : decode cJ9_abs_067f4 6 = .ok (.lload_n 0, 1) := by decide +kernel
theorem dJ9_abs_067f4_7 : decode cJ9_abs_067f4 7 = .ok (.lneg, 1) := by decide +kernel
theorem dJ9_abs_067f4_8 : decode cJ9_abs_067f4 8 = .ok (.goto 4, 3) := by decide +kernel
theorem dJ9_abs_067f4_11 : decode cJ9_abs_067f4 11 = .ok (.lload_n 0, 1) := by decide +kernel
theorem dJ9_abs_067f4_12 : decode cJ9_abs_067f4 12 = .ok (.lreturn, 1) := by decide +kernel
theorem dJ9_min_7cf53_0 : decode cJ9_min_7cf53 0 = .ok (.iload_n 0, 1) := by decide +kernel
theorem dJ9_min_7cf53_1 : decode cJ9_min_7cf53 1 = .ok (.iload_n 1, 1) := by decide +kernel
theorem dJ9_min_7cf53_2 : decode cJ9_min_7cf53 2 = .ok (.if_icmp .gt 7, 3) := by decide +kernel
theorem dJ9_min_7cf53_5 : decode cJ9_min_7cf53 5 = .ok (.iload_n 0, 1) := by decide +kernel
theorem dJ9_min_7cf53_6 : decode cJ9_min_7cf53 6 = .ok (.goto 4, 3) := by decide +kernel
theorem dJ9_min_7cf53_9 : decode cJ9_min_7cf53 9 = .ok (.iload_n 1, 1) := by decide +kernel
theorem dJ9_min_7cf53_10 : decode cJ9_min_7cf53 10 = .ok (.ireturn, 1) := by decide +kernel
theorem dJ0_length_8abf5_0 : decode cJ0_length_8abf5 0 = .ok (.aload_n 0, 1) := by decide +kernel
theorem dJ0_length_8abf5_1 : decode cJ0_length_8abf5 1 = .ok (.getfield 9, 3) := by decide +kernel
theorem dJ0_length_8abf5_4 : decode cJ0_length_8abf5 4 = .ok (.arraylength, 1) := by decide +kernel
theorem dJ0_length_8abf5_5 : decode cJ0_length_8abf5 5 = .ok (.aload_n 0, 1) := by decide +kernel
theorem dJ0_length_8abf5_6 : decode cJ0_length_8abf5 6 = .ok (.invokevirtual 335, 3) := by decide +kernel
theorem dJ0_length_8abf5_9 : decode cJ0_length_8abf5 9 = .ok (.ishr, 1) := by decide +kernel
theorem dJ0_length_8abf5_10 : decode cJ0_length_8abf5 10 = .ok (.ireturn, 1) := by decide +kernel
theorem dJ0_charAt_5068e_0 : decode cJ0_charAt_5068e 0 = .ok (.aload_n 0, 1) := by decide +kernel
theorem dJ0_charAt_5068e_1 : decode cJ0_charAt_5068e 1 = .ok (.invokevirtual 492, 3) := by decide +kernel
theorem dJ0_charAt_5068e_4 : decode cJ0_charAt_5068e 4 = .ok (.ifCond .eq 12, 3) := by decide +kernel
theorem dJ0_charAt_5068e_7 : decode cJ0_charAt_5068e 7 = .ok (.aload_n 0, 1) := by decide +kernel
theorem dJ0_charAt_5068e_8 : decode cJ0_charAt_5068e 8 = .ok (.getfield 9, 3) := by decide +kernel
theorem dJ0_charAt_5068e_11 : decode cJ0_charAt_5068e 11 = .ok (.iload_n 1, 1) := by decide +kernel
theorem dJ0_charAt_5068e_12 : decode cJ0_charAt_5068e 12 = .ok (.invokestatic 495, 3) := by decide +kernel
theorem dJ0_charAt_5068e_15 : decode cJ0_charAt_5068e 15 = .ok (.ireturn, 1) := by decide +kernel
theorem dJ0_charAt_5068e_16 : decode cJ0_charAt_5068e 16 = .ok (.aload_n 0, 1) := by decide +kernel
theorem dJ0_charAt_5068e_17 : decode cJ0_charAt_5068e 17 = .ok (.getfield 9, 3) := by decide +kernel
theorem dJ0_charAt_5068e_20 : decode cJ0_charAt_5068e 20 = .ok (.iload_n 1, 1) := by decide +kernel
theorem dJ0_charAt_5068e_21 : decode cJ0_charAt_5068e 21 = .ok (.invokestatic 498, 3) := by decide +kernel
theorem dJ0_charAt_5068e_24 : decode cJ0_charAt_5068e 24 = .ok (.ireturn, 1) := by decide +kernel
theorem dJ0_coder_7d493_0 : decode cJ0_coder_7d493 0 = .ok (.getstatic 38, 3) := by decide +kernel
theorem dJ0_coder_7d493_3 : decode cJ0_coder_7d493 3 = .ok (.ifCond .eq 10, 3) := by decide +kernel
theorem dJ0_coder_7d493_6 : decode cJ0_coder_7d493 6 = .ok (.aload_n 0, 1) := by decide +kernel
theorem dJ0_coder_7d493_7 : decode cJ0_coder_7d493 7 = .ok (.getfield 15, 3) := by decide +kernel
theorem dJ0_coder_7d493_10 : decode cJ0_coder_7d493 10 = .ok (.goto 4, 3) := by decide +kernel
theorem dJ0_coder_7d493_13 : decode cJ0_coder_7d493 13 = .ok (.iconst 1, 1) := by decide +kernel
theorem dJ0_coder_7d493_14 : decode cJ0_coder_7d493 14 = .ok (.ireturn, 1) := by decide +kernel
theorem dJ0_isLatin1_aae02_0 : decode cJ0_isLatin1_aae02 0 = .ok (.getstatic 38, 3) := by decide +kernel
theorem dJ0_isLatin1_aae02_3 : decode cJ0_isLatin1_aae02 3 = .ok (.ifCond .eq 14, 3) := by decide +kernel
theorem dJ0_isLatin1_aae02_6 : decode cJ0_isLatin1_aae02 6 = .ok (.aload_n 0, 1) := by decide +kernel
theorem dJ0_isLatin1_aae02_7 : decode cJ0_isLatin1_aae02 7 = .ok (.getfield 15, 3) := by decide +kernel
theorem dJ0_isLatin1_aae02_10 : decode cJ0_isLatin1_aae02 10 = .ok (.ifCond .ne 7, 3) := by decide +kernel
theorem dJ0_isLatin1_aae02_13 : decode cJ0_isLatin1_aae02 13 = .ok (.iconst 1, 1) := by decide +kernel
theorem dJ0_isLatin1_aae02_14 : decode cJ0_isLatin1_aae02 14 = .ok (.goto 4, 3) := by decide +kernel
theorem dJ0_isLatin1_aae02_17 : decode cJ0_isLatin1_aae02 17 = .ok (.iconst 0, 1) := by decide +kernel
theorem dJ0_isLatin1_aae02_18 : decode cJ0_isLatin1_aae02 18 = .ok (.ireturn, 1) := by decide +kernel
theorem dJ0_checkIndex_df160_0 : decode cJ0_checkIndex_df160 0 = .ok (.iload_n 0, 1) := by decide +kernel
theorem dJ0_checkIndex_df160_1 : decode cJ0_checkIndex_df160 1 = .ok (.iload_n 1, 1) := by decide +kernel
theorem dJ0_checkIndex_df160_2 : decode cJ0_checkIndex_df160 2 = .ok (.getstatic 1053, 3) := by decide +kernel
theorem dJ0_checkIndex_df160_5 : decode cJ0_checkIndex_df160 5 = .ok (.invokestatic 1059, 3) := by decide +kernel
theorem dJ0_checkIndex_df160_8 : decode cJ0_checkIndex_df160 8 = .ok (.pop, 1) := by decide +kernel
theorem dJ0_checkIndex_df160_9 : decode cJ0_checkIndex_df160 9 = .ok (.return_, 1) := by decide +kernel
theorem dJ1_charAt_3b067_0 : decode cJ1_charAt_3b067 0 = .ok (.iload_n 1, 1) := by decide +kernel
theorem dJ1_charAt_3b067_1 : decode cJ1_charAt_3b067 1 = .ok (.aload_n 0, 1) := by decide +kernel
theorem dJ1_charAt_3b067_2 : decode cJ1_charAt_3b067 2 = .ok (.arraylength, 1) := by decide +kernel
theorem dJ1_charAt_3b067_3 : decode cJ1_charAt_3b067 3 = .ok (.invokestatic 9, 3) := by decide +kernel
theorem dJ1_charAt_3b067_6 : decode cJ1_charAt_3b067 6 = .ok (.aload_n 0, 1) := by decide +kernel
theorem dJ1_charAt_3b067_7 : decode cJ1_charAt_3b067 7 = .ok (.iload_n 1, 1) := by decide +kernel
theorem dJ1_charAt_3b067_8 : decode cJ1_charAt_3b067 8 = .ok (.baload, 1) := by decide +kernel
theorem dJ1_charAt_3b067_9 : decode cJ1_charAt_3b067 9 = .ok (.sipush 255, 3) := by decide +kernel
theorem dJ1_charAt_3b067_12 : decode cJ1_charAt_3b067 12 = .ok (.iand, 1) := by decide +kernel
theorem dJ1_charAt_3b067_13 : decode cJ1_charAt_3b067 13 = .ok (.i2c, 1) := by decide +kernel
theorem dJ1_charAt_3b067_14 : decode cJ1_charAt_3b067 14 = .ok (.ireturn, 1) := by decide +kernel
theorem dJ2_getChar_3b067_0 : decode cJ2_getChar_3b067 0 = .ok (.getstatic 44, 3) := by decide +kernel
theorem dJ2_getChar_3b067_3 : decode cJ2_getChar_3b067 3 = .ok (.ifCond .ne 25, 3) := by decide +kernel
theorem dJ2_getChar_3b067_6 : decode cJ2_getChar_3b067 6 = .ok (.iload_n 1, 1) := by decide +kernel
theorem dJ2_getChar_3b067_7 : decode cJ2_getChar_3b067 7 = .ok (.ifCond .lt 11, 3) := by decide +kernel
theorem dJ2_getChar_3b067_10 : decode cJ2_getChar_3b067 10 = .ok (.iload_n 1, 1) := by decide +kernel
theorem dJ2_getChar_3b067_11 : decode cJ2_getChar_3b067 11 = .ok (.aload_n 0, 1) := by decide +kernel
theorem dJ2_getChar_3b067_12 : decode cJ2_getChar_3b067 12 = .ok (.invokestatic 48, 3) := by decide +kernel
theorem dJ2_getChar_3b067_15 : decode cJ2_getChar_3b067 15 = .ok (.if_icmp .lt 13, 3) := by decide +kernel
theorem dJ2_getChar_3b067_18 : decode cJ2_getChar_3b067 18 = .ok (.new 52, 3) := by decide +kernel
theorem dJ2_getChar_3b067_21 : decode cJ2_getChar_3b067 21 = .ok (.dup, 1) := by decide +kernel
theorem dJ2_getChar_3b067_22 : decode cJ2_getChar_3b067 22 = .ok (.ldc 54, 2) := by decide +kernel
theorem dJ2_getChar_3b067_24 : decode cJ2_getChar_3b067 24 = .ok (.invokespecial 56, 3) := by decide +kernel
theorem dJ2_getChar_3b067_27 : decode cJ2_getChar_3b067 27 = .ok (.athrow, 1) := by decide +kernel
theorem dJ2_getChar_3b067_28 : decode cJ2_getChar_3b067 28 = .ok (.iload_n 1, 1) := by decide +kernel
theorem dJ2_getChar_3b067_29 : decode cJ2_getChar_3b067 29 = .ok (.iconst 1, 1) := by decide +kernel
theorem dJ2_getChar_3b067_30 : decode cJ2_getChar_3b067 30 = .ok (.ishl, 1) := by decide +kernel
theorem dJ2_getChar_3b067_31 : decode cJ2_getChar_3b067 31 = .ok (.istore_n 1, 1) := by decide +kernel
theorem dJ2_getChar_3b067_32 : decode cJ2_getChar_3b067 32 = .ok (.aload_n 0, 1) := by decide +kernel
theorem dJ2_getChar_3b067_33 : decode cJ2_getChar_3b067 33 = .ok (.iload_n 1, 1) := by decide +kernel
theorem dJ2_getChar_3b067_34 : decode cJ2_getChar_3b067 34 = .ok (.iinc 1 1, 3) := by decide +kernel
theorem dJ2_getChar_3b067_37 : decode cJ2_getChar_3b067 37 = .ok (.baload, 1) := by decide +kernel
theorem dJ2_getChar_3b067_38 : decode cJ2_getChar_3b067 38 = .ok (.sipush 255, 3) := by decide +kernel
theorem dJ2_getChar_3b067_41 : decode cJ2_getChar_3b067 41 = .ok (.iand, 1) := by decide +kernel
theorem dJ2_getChar_3b067_42 : decode cJ2_getChar_3b067 42 = .ok (.getstatic 59, 3) := by decide +kernel
theorem dJ2_getChar_3b067_45 : decode cJ2_getChar_3b067 45 = .ok (.ishl, 1) := by decide +kernel
theorem dJ2_getChar_3b067_46 : decode cJ2_getChar_3b067 46 = .ok (.aload_n 0, 1) := by decide +kernel
theorem dJ2_getChar_3b067_47 : decode cJ2_getChar_3b067 47 = .ok (.iload_n 1, 1) := by decide +kernel
theorem dJ2_getChar_3b067_48 : decode cJ2_getChar_3b067 48 = .ok (.baload, 1) := by decide +kernel
theorem dJ2_getChar_3b067_49 : decode cJ2_getChar_3b067 49 = .ok (.sipush 255, 3) := by decide +kernel
theorem dJ2_getChar_3b067_52 : decode cJ2_getChar_3b067 52 = .ok (.iand, 1) := by decide +kernel
theorem dJ2_getChar_3b067_53 : decode cJ2_getChar_3b067 53 = .ok (.getstatic 63, 3) := by decide +kernel
theorem dJ2_getChar_3b067_56 : decode cJ2_getChar_3b067 56 = .ok (.ishl, 1) := by decide +kernel
theorem dJ2_getChar_3b067_57 : decode cJ2_getChar_3b067 57 = .ok (.ior, 1) := by decide +kernel
theorem dJ2_getChar_3b067_58 : decode cJ2_getChar_3b067 58 = .ok (.i2c, 1) := by decide +kernel
theorem dJ2_getChar_3b067_59 : decode cJ2_getChar_3b067 59 = .ok (.ireturn, 1) := by decide +kernel
theorem dJ2_length_9d52b_0 : decode cJ2_length_9d52b 0 = .ok (.aload_n 0, 1) := by decide +kernel
theorem dJ2_length_9d52b_1 : decode cJ2_length_9d52b 1 = .ok (.arraylength, 1) := by decide +kernel
theorem dJ2_length_9d52b_2 : decode cJ2_length_9d52b 2 = .ok (.iconst 1, 1) := by decide +kernel
theorem dJ2_length_9d52b_3 : decode cJ2_length_9d52b 3 = .ok (.ishr, 1) := by decide +kernel
theorem dJ2_length_9d52b_4 : decode cJ2_length_9d52b 4 = .ok (.ireturn, 1) := by decide +kernel
theorem dJ2_charAt_3b067_0 : decode cJ2_charAt_3b067 0 = .ok (.iload_n 1, 1) := by decide +kernel
theorem dJ2_charAt_3b067_1 : decode cJ2_charAt_3b067 1 = .ok (.aload_n 0, 1) := by decide +kernel
theorem dJ2_charAt_3b067_2 : decode cJ2_charAt_3b067 2 = .ok (.invokestatic 67, 3) := by decide +kernel
theorem dJ2_charAt_3b067_5 : decode cJ2_charAt_3b067 5 = .ok (.aload_n 0, 1) := by decide +kernel
theorem dJ2_charAt_3b067_6 : decode cJ2_charAt_3b067 6 = .ok (.iload_n 1, 1) := by decide +kernel
theorem dJ2_charAt_3b067_7 : decode cJ2_charAt_3b067 7 = .ok (.invokestatic 71, 3) := by decide +kernel
theorem dJ2_charAt_3b067_10 : decode cJ2_charAt_3b067 10 = .ok (.ireturn, 1) := by decide +kernel
theorem dJ2_checkIndex_2214a_0 : decode cJ2_checkIndex_2214a 0 = .ok (.iload_n 0, 1) := by decide +kernel
theorem dJ2_checkIndex_2214a_1 : decode cJ2_checkIndex_2214a 1 = .ok (.aload_n 1, 1) := by decide +kernel
theorem dJ2_checkIndex_2214a_2 : decode cJ2_checkIndex_2214a 2 = .ok (.invokestatic 48, 3) := by decide +kernel
theorem dJ2_checkIndex_2214a_5 : decode cJ2_checkIndex_2214a 5 = .ok (.invokestatic 414, 3) := by decide +kernel
theorem dJ2_checkIndex_2214a_8 : decode cJ2_checkIndex_2214a 8 = .ok (.return_, 1) := by decide +kernel
theorem dJ3_checkIndex_8e157_0 : decode cJ3_checkIndex_8e157 0 = .ok (.iload_n 0, 1) := by decide +kernel
theorem dJ3_checkIndex_8e157_1 : decode cJ3_checkIndex_8e157 1 = .ok (.ifCond .lt 8, 3) := by decide +kernel
theorem dJ3_checkIndex_8e157_4 : decode cJ3_checkIndex_8e157 4 = .ok (.iload_n 0, 1) := by decide +kernel
theorem dJ3_checkIndex_8e157_5 : decode cJ3_checkIndex_8e157 5 = .ok (.iload_n 1, 1) := by decide +kernel
theorem dJ3_checkIndex_8e157_6 : decode cJ3_checkIndex_8e157 6 = .ok (.if_icmp .lt 10, 3) := by decide +kernel
theorem dJ3_checkIndex_8e157_9 : decode cJ3_checkIndex_8e157 9 = .ok (.aload_n 2, 1) := by decide +kernel
theorem dJ3_checkIndex_8e157_10 : decode cJ3_checkIndex_8e157 10 = .ok (.iload_n 0, 1) := by decide +kernel
theorem dJ3_checkIndex_8e157_11 : decode cJ3_checkIndex_8e157 11 = .ok (.iload_n 1, 1) := by decide +kernel
theorem dJ3_checkIndex_8e157_12 : decode cJ3_checkIndex_8e157 12 = .ok (.invokestatic 95, 3) := by decide +kernel
theorem dJ3_checkIndex_8e157_15 : decode cJ3_checkIndex_8e157 15 = .ok (.athrow, 1) := by decide +kernel
theorem dJ3_checkIndex_8e157_16 : decode cJ3_checkIndex_8e157 16 = .ok (.iload_n 0, 1) := by decide +kernel
theorem dJ3_checkIndex_8e157_17 : decode cJ3_checkIndex_8e157 17 = .ok (.ireturn, 1) := by decide +kernel
