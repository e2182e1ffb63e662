theorem dX6_tell_32 : decode cX6_tell 32 = .ok (.invokevirtual 96, 3) := by decide +kernel
theorem dX6_tell_35 : decode cX6_tell 35 = .ok (.goto 171, 3) := by decide +kernel
theorem dX6_tell_38 : decode cX6_tell 38 = .ok (.aload_n 0, 1) := by decide +kernel
theorem dX6_tell_39 : decode cX6_tell 39 = .ok (.getfield 27, 3) := by decide +kernel
theorem dX6_tell_42 : decode cX6_tell 42 = .ok (.ldc 99, 2) := by decide +kernel
theorem dX6_tell_44 : decode cX6_tell 44 = .ok (.invokevirtual 88, 3) := by decide +kernel
theorem dX6_tell_47 : decode cX6_tell 47 = .ok (.ifCond .eq 10, 3) := by decide +kernel
theorem dX6_tell_50 : decode cX6_tell 50 = .ok (.aload_n 0, 1) := by decide +kernel
theorem dX6_tell_51 : decode cX6_tell 51 = .ok (.invokevirtual 101, 3) := by decide +kernel
theorem dX6_tell_54 : decode cX6_tell 54 = .ok (.goto 152, 3) := by decide +kernel
theorem dX6_tell_57 : decode cX6_tell 57 = .ok (.aload_n 0, 1) := by decide +kernel
theorem dX6_tell_58 : decode cX6_tell 58 = .ok (.getfield 27, 3) := by decide +kernel
theorem dX6_tell_61 : decode cX6_tell 61 = .ok (.ldc 104, 2) := by decide +kernel
theorem dX6_tell_63 : decode cX6_tell 63 = .ok (.invokevirtual 88, 3) := by decide +kernel
theorem dX6_tell_66 : decode cX6_tell 66 = .ok (.ifCond .eq 23, 3) := by decide +kernel
theorem dX6_tell_69 : decode cX6_tell 69 = .ok (.aload_n 0, 1) := by decide +kernel
theorem dX6_tell_70 : decode cX6_tell 70 = .ok (.iconst 2, 1) := by decide +kernel
theorem dX6_tell_71 : decode cX6_tell 71 = .ok (.iconst 0, 1) := by decide +kernel
theorem dX6_tell_72 : decode cX6_tell 72 = .ok (.aload_n 0, 1) := by decide +kernel
theorem dX6_tell_73 : decode cX6_tell 73 = .ok (.getfield 27, 3) := by decide +kernel
theorem dX6_tell_76 : decode cX6_tell 76 = .ok (.iconst 1, 1) := by decide +kernel
theorem dX6_tell_77 : decode cX6_tell 77 = .ok (.sipush 200, 3) := by decide +kernel
theorem dX6_tell_80 : decode cX6_tell 80 = .ok (.invokevirtual 92, 3) := by decide +kernel
theorem dX6_tell_83 : decode cX6_tell 83 = .ok (.invokevirtual 106, 3) := by decide +kernel
theorem dX6_tell_86 : decode cX6_tell 86 = .ok (.goto 120, 3) := by decide +kernel
theorem dX6_tell_89 : decode cX6_tell 89 = .ok (.aload_n 0, 1) := by decide +kernel
theorem dX6_tell_90 : decode cX6_tell 90 = .ok (.getfield 27, 3) := by decide +kernel
theorem dX6_tell_93 : decode cX6_tell 93 = .ok (.ldc 110, 2) := by decide +kernel
theorem dX6_tell_95 : decode cX6_tell 95 = .ok (.invokevirtual 88, 3) := by decide +kernel
theorem dX6_tell_98 : decode cX6_tell 98 = .ok (.ifCond .eq 10, 3) := by decide +kernel
theorem dX6_tell_101 : decode cX6_tell 101 = .ok (.aload_n 0, 1) := by decide +kernel
theorem dX6_tell_102 : decode cX6_tell 102 = .ok (.invokevirtual 112, 3) := by decide +kernel
theorem dX6_tell_105 : decode cX6_tell 105 = .ok (.goto 101, 3) := by decide +kernel
theorem dX6_tell_108 : decode cX6_tell 108 = .ok (.aload_n 0, 1) := by decide +kernel
theorem dX6_tell_109 : decode cX6_tell 109 = .ok (.getfield 27, 3) := by decide +kernel
theorem dX6_tell_112 : decode cX6_tell 112 = .ok (.ldc 115, 2) := by decide +kernel
theorem dX6_tell_114 : decode cX6_tell 114 = .ok (.invokevirtual 88, 3) := by decide +kernel
theorem dX6_tell_117 : decode cX6_tell 117 = .ok (.ifCond .eq 10, 3) := by decide +kernel
theorem dX6_tell_120 : decode cX6_tell 120 = .ok (.aload_n 0, 1) := by decide +kernel
theorem dX6_tell_121 : decode cX6_tell 121 = .ok (.invokevirtual 117, 3) := by decide +kernel
theorem dX6_tell_124 : decode cX6_tell 124 = .ok (.goto 82, 3) := by decide +kernel
theorem dX6_tell_127 : decode cX6_tell 127 = .ok (.aload_n 0, 1) := by decide +kernel
theorem dX6_tell_128 : decode cX6_tell 128 = .ok (.getfield 27, 3) := by decide +kernel
theorem dX6_tell_131 : decode cX6_tell 131 = .ok (.ldc 120, 2) := by decide +kernel
theorem dX6_tell_133 : decode cX6_tell 133 = .ok (.invokevirtual 88, 3) := by decide +kernel
theorem dX6_tell_136 : decode cX6_tell 136 = .ok (.ifCond .eq 10, 3) := by decide +kernel
theorem dX6_tell_139 : decode cX6_tell 139 = .ok (.aload_n 0, 1) := by decide +kernel
theorem dX6_tell_140 : decode cX6_tell 140 = .ok (.invokevirtual 122, 3) := by decide +kernel
theorem dX6_tell_143 : decode cX6_tell 143 = .ok (.goto 63, 3) := by decide +kernel
theorem dX6_tell_146 : decode cX6_tell 146 = .ok (.aload_n 0, 1) := by decide +kernel
theorem dX6_tell_147 : decode cX6_tell 147 = .ok (.getfield 27, 3) := by decide +kernel
theorem dX6_tell_150 : decode cX6_tell 150 = .ok (.ldc 125, 2) := by decide +kernel
theorem dX6_tell_152 : decode cX6_tell 152 = .ok (.invokevirtual 88, 3) := by decide +kernel
theorem dX6_tell_155 : decode cX6_tell 155 = .ok (.ifCond .eq 10, 3) := by decide +kernel
theorem dX6_tell_158 : decode cX6_tell 158 = .ok (.aload_n 0, 1) := by decide +kernel
theorem dX6_tell_159 : decode cX6_tell 159 = .ok (.invokevirtual 127, 3) := by decide +kernel
theorem dX6_tell_162 : decode cX6_tell 162 = .ok (.goto 44, 3) := by decide +kernel
theorem dX6_tell_165 : decode cX6_tell 165 = .ok (.aload_n 0, 1) := by decide +kernel
theorem dX6_tell_166 : decode cX6_tell 166 = .ok (.getfield 27, 3) := by decide +kernel
theorem dX6_tell_169 : decode cX6_tell 169 = .ok (.ldc 130, 2) := by decide +kernel
theorem dX6_tell_171 : decode cX6_tell 171 = .ok (.invokevirtual 88, 3) := by decide +kernel
theorem dX6_tell_174 : decode cX6_tell 174 = .ok (.ifCond .eq 17, 3) := by decide +kernel
theorem dX6_tell_177 : decode cX6_tell 177 = .ok (.aload_n 0, 1) := by decide +kernel
theorem dX6_tell_178 : decode cX6_tell 178 = .ok (.getfield 41, 3) := by decide +kernel
theorem dX6_tell_181 : decode cX6_tell 181 = .ok (.ifCond .ne 10, 3) := by decide +kernel
theorem dX6_tell_184 : decode cX6_tell 184 = .ok (.aload_n 0, 1) := by decide +kernel
theorem dX6_tell_185 : decode cX6_tell 185 = .ok (.invokevirtual 132, 3) := by decide +kernel
theorem dX6_tell_188 : decode cX6_tell 188 = .ok (.goto 18, 3) := by decide +kernel
theorem dX6_tell_191 : decode cX6_tell 191 = .ok (.aload_n 0, 1) := by decide +kernel
theorem dX6_tell_192 : decode cX6_tell 192 = .ok (.getfield 27, 3) := by decide +kernel
theorem dX6_tell_195 : decode cX6_tell 195 = .ok (.iconst 1, 1) := by decide +kernel
theorem dX6_tell_196 : decode cX6_tell 196 = .ok (.aload_n 0, 1) := by decide +kernel
theorem dX6_tell_197 : decode cX6_tell 197 = .ok (.getfield 27, 3) := by decide +kernel
theorem dX6_tell_200 : decode cX6_tell 200 = .ok (.getfield 135, 3) := by decide +kernel
theorem dX6_tell_203 : decode cX6_tell 203 = .ok (.invokevirtual 71, 3) := by decide +kernel
theorem dX6_tell_206 : decode cX6_tell 206 = .ok (.return_, 1) := by decide +kernel
theorem dX6_tellPut_0 : decode cX6_tellPut 0 = .ok (.aload_n 0, 1) := by decide +kernel
theorem dX6_tellPut_1 : decode cX6_tellPut 1 = .ok (.iload_n 1, 1) := by decide +kernel
theorem dX6_tellPut_2 : decode cX6_tellPut 2 = .ok (.iload_n 2, 1) := by decide +kernel
theorem dX6_tellPut_3 : decode cX6_tellPut 3 = .ok (.invokevirtual 138, 3) := by decide +kernel
theorem dX6_tellPut_6 : decode cX6_tellPut 6 = .ok (.aload_n 0, 1) := by decide +kernel
theorem dX6_tellPut_7 : decode cX6_tellPut 7 = .ok (.getfield 27, 3) := by decide +kernel
theorem dX6_tellPut_10 : decode cX6_tellPut 10 = .ok (.bipush 59, 2) := by decide +kernel
theorem dX6_tellPut_12 : decode cX6_tellPut 12 = .ok (.invokevirtual 141, 3) := by decide +kernel
theorem dX6_tellPut_15 : decode cX6_tellPut 15 = .ok (.return_, 1) := by decide +kernel
theorem dX6_put_0 : decode cX6_put 0 = .ok (.iload_n 1, 1) := by decide +kernel
theorem dX6_put_1 : decode cX6_put 1 = .ok (.iconst (-1), 1) := by decide +kernel
theorem dX6_put_2 : decode cX6_put 2 = .ok (.if_icmp .ne 8, 3) := by decide +kernel
theorem dX6_put_5 : decode cX6_put 5 = .ok (.iload_n 2, 1) := by decide +kernel
theorem dX6_put_6 : decode cX6_put 6 = .ok (.iconst (-1), 1) := by decide +kernel
theorem dX6_put_7 : decode cX6_put 7 = .ok (.if_icmp .eq 27, 3) := by decide +kernel
theorem dX6_put_10 : decode cX6_put 10 = .ok (.aload_n 0, 1) := by decide +kernel
theorem dX6_put_11 : decode cX6_put 11 = .ok (.getfield 12, 3) := by decide +kernel
theorem dX6_put_14 : decode cX6_put 14 = .ok (.iconst 0, 1) := by decide +kernel
theorem dX6_put_15 : decode cX6_put 15 = .ok (.iload_n 1, 1) := by decide +kernel
theorem dX6_put_16 : decode cX6_put 16 = .ok (.iload_n 2, 1) := by decide +kernel
theorem dX6_put_17 : decode cX6_put 17 = .ok (.invokevirtual 145, 3) := by decide +kernel
theorem dX6_put_20 : decode cX6_put 20 = .ok (.aload_n 0, 1) := by decide +kernel
theorem dX6_put_21 : decode cX6_put 21 = .ok (.getfield 20, 3) := by decide +kernel
theorem dX6_put_24 : decode cX6_put 24 = .ok (.aload_n 0, 1) := by decide +kernel
theorem dX6_put_25 : decode cX6_put 25 = .ok (.getfield 41, 3) := by decide +kernel
theorem dX6_put_28 : decode cX6_put 28 = .ok (.aaload, 1) := by decide +kernel
theorem dX6_put_29 : decode cX6_put 29 = .ok (.iload_n 1, 1) := by decide +kernel
theorem dX6_put_30 : decode cX6_put 30 = .ok (.iload_n 2, 1) := by decide +kernel
theorem dX6_put_31 : decode cX6_put 31 = .ok (.invokevirtual 148, 3) := by decide +kernel
theorem dX6_put_34 : decode cX6_put 34 = .ok (.return_, 1) := by decide +kernel
theorem dX6_tellCounts_0 : decode cX6_tellCounts 0 = .ok (.aload_n 0, 1) := by decide +kernel
theorem dX6_tellCounts_1 : decode cX6_tellCounts 1 = .ok (.getfield 12, 3) := by decide +kernel
theorem dX6_tellCounts_4 : decode cX6_tellCounts 4 = .ok (.iload_n 1, 1) := by decide +kernel
theorem dX6_tellCounts_5 : decode cX6_tellCounts 5 = .ok (.iload_n 2, 1) := by decide +kernel
theorem dX6_tellCounts_6 : decode cX6_tellCounts 6 = .ok (.iload_n 3, 1) := by decide +kernel
theorem dX6_tellCounts_7 : decode cX6_tellCounts 7 = .ok (.invokevirtual 145, 3) := by decide +kernel
theorem dX6_tellCounts_10 : decode cX6_tellCounts 10 = .ok (.aload_n 0, 1) := by decide +kernel
theorem dX6_tellCounts_11 : decode cX6_tellCounts 11 = .ok (.getfield 20, 3) := by decide +kernel
theorem dX6_tellCounts_14 : decode cX6_tellCounts 14 = .ok (.aload_n 0, 1) := by decide +kernel
theorem dX6_tellCounts_15 : decode cX6_tellCounts 15 = .ok (.getfield 41, 3) := by decide +kernel
theorem dX6_tellCounts_18 : decode cX6_tellCounts 18 = .ok (.aaload, 1) := by decide +kernel
theorem dX6_tellCounts_19 : decode cX6_tellCounts 19 = .ok (.iload_n 3, 1) := by decide +kernel
theorem dX6_tellCounts_20 : decode cX6_tellCounts 20 = .ok (.invokevirtual 149, 3) := by decide +kernel
theorem dX6_tellCounts_23 : decode cX6_tellCounts 23 = .ok (.aload_n 0, 1) := by decide +kernel
theorem dX6_tellCounts_24 : decode cX6_tellCounts 24 = .ok (.getfield 27, 3) := by decide +kernel
theorem dX6_tellCounts_27 : decode cX6_tellCounts 27 = .ok (.bipush 59, 2) := by decide +kernel
theorem dX6_tellCounts_29 : decode cX6_tellCounts 29 = .ok (.invokevirtual 141, 3) := by decide +kernel
theorem dX6_tellCounts_32 : decode cX6_tellCounts 32 = .ok (.return_, 1) := by decide +kernel
theorem dX6_tellGo_0 : decode cX6_tellGo 0 = .ok (.aload_n 0, 1) := by decide +kernel
theorem dX6_tellGo_1 : decode cX6_tellGo 1 = .ok (.getfield 27, 3) := by decide +kernel
theorem dX6_tellGo_4 : decode cX6_tellGo 4 = .ok (.ldc 153, 2) := by decide +kernel
theorem dX6_tellGo_6 : decode cX6_tellGo 6 = .ok (.ldc 153, 2) := by decide +kernel
theorem dX6_tellGo_8 : decode cX6_tellGo 8 = .ok (.invokevirtual 155, 3) := by decide +kernel
theorem dX6_tellGo_11 : decode cX6_tellGo 11 = .ok (.aload_n 0, 1) := by decide +kernel
theorem dX6_tellGo_12 : decode cX6_tellGo 12 = .ok (.getfield 27, 3) := by decide +kernel
theorem dX6_tellGo_15 : decode cX6_tellGo 15 = .ok (.iconst 0, 1) := by decide +kernel
theorem dX6_tellGo_16 : decode cX6_tellGo 16 = .ok (.sipush 1000, 3) := by decide +kernel
theorem dX6_tellGo_19 : decode cX6_tellGo 19 = .ok (.invokevirtual 92, 3) := by decide +kernel
theorem dX6_tellGo_22 : decode cX6_tellGo 22 = .ok (.istore_n 1, 1) := by decide +kernel
theorem dX6_tellGo_23 : decode cX6_tellGo 23 = .ok (.aload_n 0, 1) := by decide +kernel
theorem dX6_tellGo_24 : decode cX6_tellGo 24 = .ok (.getfield 27, 3) := by decide +kernel
theorem dX6_tellGo_27 : decode cX6_tellGo 27 = .ok (.ldc 159, 2) := by decide +kernel
theorem dX6_tellGo_29 : decode cX6_tellGo 29 = .ok (.ldc 159, 2) := by decide +kernel
theorem dX6_tellGo_31 : decode cX6_tellGo 31 = .ok (.invokevirtual 155, 3) := by decide +kernel
theorem dX6_tellGo_34 : decode cX6_tellGo 34 = .ok (.aload_n 0, 1) := by decide +kernel
theorem dX6_tellGo_35 : decode cX6_tellGo 35 = .ok (.iconst 1, 1) := by decide +kernel
theorem dX6_tellGo_36 : decode cX6_tellGo 36 = .ok (.iload_n 1, 1) := by decide +kernel
theorem dX6_tellGo_37 : decode cX6_tellGo 37 = .ok (.aload_n 0, 1) := by decide +kernel
theorem dX6_tellGo_38 : decode cX6_tellGo 38 = .ok (.getfield 27, 3) := by decide +kernel
theorem dX6_tellGo_41 : decode cX6_tellGo 41 = .ok (.iconst 1, 1) := by decide +kernel
theorem dX6_tellGo_42 : decode cX6_tellGo 42 = .ok (.sipush 200, 3) := by decide +kernel
theorem dX6_tellGo_45 : decode cX6_tellGo 45 = .ok (.invokevirtual 92, 3) := by decide +kernel
theorem dX6_tellGo_48 : decode cX6_tellGo 48 = .ok (.invokevirtual 106, 3) := by decide +kernel
theorem dX6_tellGo_51 : decode cX6_tellGo 51 = .ok (.return_, 1) := by decide +kernel
theorem dX6_tellRise_0 : decode cX6_tellRise 0 = .ok (.aload_n 0, 1) := by decide +kernel
theorem dX6_tellRise_1 : decode cX6_tellRise 1 = .ok (.getfield 27, 3) := by decide +kernel
theorem dX6_tellRise_4 : decode cX6_tellRise 4 = .ok (.iconst 1, 1) := by decide +kernel
theorem dX6_tellRise_5 : decode cX6_tellRise 5 = .ok (.bipush 40, 2) := by decide +kernel
theorem dX6_tellRise_7 : decode cX6_tellRise 7 = .ok (.invokevirtual 92, 3) := by decide +kernel
theorem dX6_tellRise_10 : decode cX6_tellRise 10 = .ok (.istore_n 1, 1) := by decide +kernel
theorem dX6_tellRise_11 : decode cX6_tellRise 11 = .ok (.aload_n 0, 1) := by decide +kernel
theorem dX6_tellRise_12 : decode cX6_tellRise 12 = .ok (.getfield 27, 3) := by decide +kernel
theorem dX6_tellRise_15 : decode cX6_tellRise 15 = .ok (.ldc 159, 2) := by decide +kernel
theorem dX6_tellRise_17 : decode cX6_tellRise 17 = .ok (.ldc 159, 2) := by decide +kernel
theorem dX6_tellRise_19 : decode cX6_tellRise 19 = .ok (.invokevirtual 155, 3) := by decide +kernel
theorem dX6_tellRise_22 : decode cX6_tellRise 22 = .ok (.aload_n 0, 1) := by decide +kernel
theorem dX6_tellRise_23 : decode cX6_tellRise 23 = .ok (.iconst 3, 1) := by decide +kernel
theorem dX6_tellRise_24 : decode cX6_tellRise 24 = .ok (.iload_n 1, 1) := by decide +kernel
theorem dX6_tellRise_25 : decode cX6_tellRise 25 = .ok (.aload_n 0, 1) := by decide +kernel
theorem dX6_tellRise_26 : decode cX6_tellRise 26 = .ok (.getfield 27, 3) := by decide +kernel
theorem dX6_tellRise_29 : decode cX6_tellRise 29 = .ok (.iconst 2, 1) := by decide +kernel
theorem dX6_tellRise_30 : decode cX6_tellRise 30 = .ok (.bipush 40, 2) := by decide +kernel
theorem dX6_tellRise_32 : decode cX6_tellRise 32 = .ok (.invokevirtual 92, 3) := by decide +kernel
theorem dX6_tellRise_35 : decode cX6_tellRise 35 = .ok (.invokevirtual 106, 3) := by decide +kernel
theorem dX6_tellRise_38 : decode cX6_tellRise 38 = .ok (.return_, 1) := by decide +kernel
theorem dX6_tellLight_0 : decode cX6_tellLight 0 = .ok (.aload_n 0, 1) := by decide +kernel
theorem dX6_tellLight_1 : decode cX6_tellLight 1 = .ok (.getfield 27, 3) := by decide +kernel
theorem dX6_tellLight_4 : decode cX6_tellLight 4 = .ok (.ldc 161, 2) := by decide +kernel
theorem dX6_tellLight_6 : decode cX6_tellLight 6 = .ok (.ldc 163, 2) := by decide +kernel
theorem dX6_tellLight_8 : decode cX6_tellLight 8 = .ok (.invokevirtual 155, 3) := by decide +kernel
theorem dX6_tellLight_11 : decode cX6_tellLight 11 = .ok (.aload_n 0, 1) := by decide +kernel
theorem dX6_tellLight_12 : decode cX6_tellLight 12 = .ok (.iconst (-1), 1) := by decide +kernel
theorem dX6_tellLight_13 : decode cX6_tellLight 13 = .ok (.aload_n 0, 1) := by decide +kernel
theorem dX6_tellLight_14 : decode cX6_tellLight 14 = .ok (.getfield 27, 3) := by decide +kernel
theorem dX6_tellLight_17 : decode cX6_tellLight 17 = .ok (.ldc 161, 2) := by decide +kernel
theorem dX6_tellLight_19 : decode cX6_tellLight 19 = .ok (.invokevirtual 88, 3) := by decide +kernel
theorem dX6_tellLight_22 : decode cX6_tellLight 22 = .ok (.ifCond .eq 7, 3) := by decide +kernel
theorem dX6_tellLight_25 : decode cX6_tellLight 25 = .ok (.iconst 1, 1) := by decide +kernel
theorem dX6_tellLight_26 : decode cX6_tellLight 26 = .ok (.goto 4, 3) := by decide +kernel
theorem dX6_tellLight_29 : decode cX6_tellLight 29 = .ok (.iconst 0, 1) := by decide +kernel
theorem dX6_tellLight_30 : decode cX6_tellLight 30 = .ok (.invokevirtual 96, 3) := by decide +kernel
theorem dX6_tellLight_33 : decode cX6_tellLight 33 = .ok (.return_, 1) := by decide +kernel
theorem dX6_tellDo_0 : decode cX6_tellDo 0 = .ok (.aload_n 0, 1) := by decide +kernel
theorem dX6_tellDo_1 : decode cX6_tellDo 1 = .ok (.getfield 27, 3) := by decide +kernel
theorem dX6_tellDo_4 : decode cX6_tellDo 4 = .ok (.invokevirtual 165, 3) := by decide +kernel
theorem dX6_tellDo_7 : decode cX6_tellDo 7 = .ok (.aload_n 0, 1) := by decide +kernel
theorem dX6_tellDo_8 : decode cX6_tellDo 8 = .ok (.invokevirtual 168, 3) := by decide +kernel
theorem dX6_tellDo_11 : decode cX6_tellDo 11 = .ok (.istore_n 1, 1) := by decide +kernel
theorem dX6_tellDo_12 : decode cX6_tellDo 12 = .ok (.iload_n 1, 1) := by decide +kernel
theorem dX6_tellDo_13 : decode cX6_tellDo 13 = .ok (.iconst (-1), 1) := by decide +kernel
theorem dX6_tellDo_14 : decode cX6_tellDo 14 = .ok (.if_icmp .ne 21, 3) := by decide +kernel
theorem dX6_tellDo_17 : decode cX6_tellDo 17 = .ok (.aload_n 0, 1) := by decide +kernel
theorem dX6_tellDo_18 : decode cX6_tellDo 18 = .ok (.getfield 27, 3) := by decide +kernel
theorem dX6_tellDo_21 : decode cX6_tellDo 21 = .ok (.iconst 3, 1) := by decide +kernel
theorem dX6_tellDo_22 : decode cX6_tellDo 22 = .ok (.aload_n 0, 1) := by decide +kernel
theorem dX6_tellDo_23 : decode cX6_tellDo 23 = .ok (.getfield 27, 3) := by decide +kernel
theorem dX6_tellDo_26 : decode cX6_tellDo 26 = .ok (.getfield 135, 3) := by decide +kernel
theorem dX6_tellDo_29 : decode cX6_tellDo 29 = .ok (.invokevirtual 71, 3) := by decide +kernel
theorem dX6_tellDo_32 : decode cX6_tellDo 32 = .ok (.goto 82, 3) := by decide +kernel
theorem dX6_tellDo_35 : decode cX6_tellDo 35 = .ok (.aload_n 0, 1) := by decide +kernel
theorem dX6_tellDo_36 : decode cX6_tellDo 36 = .ok (.getfield 24, 3) := by decide +kernel
theorem dX6_tellDo_39 : decode cX6_tellDo 39 = .ok (.iload_n 1, 1) := by decide +kernel
theorem dX6_tellDo_40 : decode cX6_tellDo 40 = .ok (.aaload, 1) := by decide +kernel
theorem dX6_tellDo_41 : decode cX6_tellDo 41 = .ok (.getfield 65, 3) := by decide +kernel
theorem dX6_tellDo_44 : decode cX6_tellDo 44 = .ok (.ifCond .ne 28, 3) := by decide +kernel
theorem dX6_tellDo_47 : decode cX6_tellDo 47 = .ok (.aload_n 0, 1) := by decide +kernel
theorem dX6_tellDo_48 : decode cX6_tellDo 48 = .ok (.aload_n 0, 1) := by decide +kernel
theorem dX6_tellDo_49 : decode cX6_tellDo 49 = .ok (.getfield 24, 3) := by decide +kernel
theorem dX6_tellDo_52 : decode cX6_tellDo 52 = .ok (.iload_n 1, 1) := by decide +kernel
theorem dX6_tellDo_53 : decode cX6_tellDo 53 = .ok (.aaload, 1) := by decide +kernel
theorem dX6_tellDo_54 : decode cX6_tellDo 54 = .ok (.getfield 172, 3) := by decide +kernel
theorem dX6_tellDo_57 : decode cX6_tellDo 57 = .ok (.aload_n 0, 1) := by decide +kernel
theorem dX6_tellDo_58 : decode cX6_tellDo 58 = .ok (.getfield 24, 3) := by decide +kernel
theorem dX6_tellDo_61 : decode cX6_tellDo 61 = .ok (.iload_n 1, 1) := by decide +kernel
theorem dX6_tellDo_62 : decode cX6_tellDo 62 = .ok (.aaload, 1) := by decide +kernel
theorem dX6_tellDo_63 : decode cX6_tellDo 63 = .ok (.getfield 175, 3) := by decide +kernel
theorem dX6_tellDo_66 : decode cX6_tellDo 66 = .ok (.invokevirtual 138, 3) := by decide +kernel
theorem dX6_tellDo_69 : decode cX6_tellDo 69 = .ok (.goto 45, 3) := by decide +kernel
theorem dX6_tellDo_72 : decode cX6_tellDo 72 = .ok (.aload_n 0, 1) := by decide +kernel
theorem dX6_tellDo_73 : decode cX6_tellDo 73 = .ok (.getfield 12, 3) := by decide +kernel
theorem dX6_tellDo_76 : decode cX6_tellDo 76 = .ok (.bipush 6, 2) := by decide +kernel
theorem dX6_tellDo_78 : decode cX6_tellDo 78 = .ok (.aload_n 0, 1) := by decide +kernel
theorem dX6_tellDo_79 : decode cX6_tellDo 79 = .ok (.getfield 24, 3) := by decide +kernel
theorem dX6_tellDo_82 : decode cX6_tellDo 82 = .ok (.iload_n 1, 1) := by decide +kernel
theorem dX6_tellDo_83 : decode cX6_tellDo 83 = .ok (.aaload, 1) := by decide +kernel
theorem dX6_tellDo_84 : decode cX6_tellDo 84 = .ok (.getfield 177, 3) := by decide +kernel
theorem dX6_tellDo_87 : decode cX6_tellDo 87 = .ok (.iconst 1, 1) := by decide +kernel
theorem dX6_tellDo_88 : decode cX6_tellDo 88 = .ok (.iadd, 1) := by decide +kernel
theorem dX6_tellDo_89 : decode cX6_tellDo 89 = .ok (.iconst 0, 1) := by decide +kernel
theorem dX6_tellDo_90 : decode cX6_tellDo 90 = .ok (.invokevirtual 145, 3) := by decide +kernel
theorem dX6_tellDo_93 : decode cX6_tellDo 93 = .ok (.aload_n 0, 1) := by decide +kernel
theorem dX6_tellDo_94 : decode cX6_tellDo 94 = .ok (.getfield 20, 3) := by decide +kernel
theorem dX6_tellDo_97 : decode cX6_tellDo 97 = .ok (.aload_n 0, 1) := by decide +kernel
theorem dX6_tellDo_98 : decode cX6_tellDo 98 = .ok (.getfield 41, 3) := by decide +kernel
theorem dX6_tellDo_101 : decode cX6_tellDo 101 = .ok (.aaload, 1) := by decide +kernel
theorem dX6_tellDo_102 : decode cX6_tellDo 102 = .ok (.aload_n 0, 1) := by decide +kernel
theorem dX6_tellDo_103 : decode cX6_tellDo 103 = .ok (.getfield 24, 3) := by decide +kernel
theorem dX6_tellDo_106 : decode cX6_tellDo 106 = .ok (.iload_n 1, 1) := by decide +kernel
theorem dX6_tellDo_107 : decode cX6_tellDo 107 = .ok (.aaload, 1) := by decide +kernel
theorem dX6_tellDo_108 : decode cX6_tellDo 108 = .ok (.getfield 65, 3) := by decide +kernel
theorem dX6_tellDo_111 : decode cX6_tellDo 111 = .ok (.invokevirtual 149, 3) := by decide +kernel
theorem dX6_tellDo_114 : decode cX6_tellDo 114 = .ok (.aload_n 0, 1) := by decide +kernel
theorem dX6_tellDo_115 : decode cX6_tellDo 115 = .ok (.getfield 27, 3) := by decide +kernel
theorem dX6_tellDo_118 : decode cX6_tellDo 118 = .ok (.bipush 59, 2) := by decide +kernel
theorem dX6_tellDo_120 : decode cX6_tellDo 120 = .ok (.invokevirtual 141, 3) := by decide +kernel
theorem dX6_tellDo_123 : decode cX6_tellDo 123 = .ok (.return_, 1) := by decide +kernel
theorem dX6_figureNamed_0 : decode cX6_figureNamed 0 = .ok (.iconst 0, 1) := by decide +kernel
theorem dX6_figureNamed_1 : decode cX6_figureNamed 1 = .ok (.istore_n 1, 1) := by decide +kernel
theorem dX6_figureNamed_2 : decode cX6_figureNamed 2 = .ok (.iload_n 1, 1) := by decide +kernel
theorem dX6_figureNamed_3 : decode cX6_figureNamed 3 = .ok (.aload_n 0, 1) := by decide +kernel
theorem dX6_figureNamed_4 : decode cX6_figureNamed 4 = .ok (.getfield 44, 3) := by decide +kernel
theorem dX6_figureNamed_7 : decode cX6_figureNamed 7 = .ok (.if_icmp .ge 39, 3) := by decide +kernel
theorem dX6_figureNamed_10 : decode cX6_figureNamed 10 = .ok (.aload_n 0, 1) := by decide +kernel
theorem dX6_figureNamed_11 : decode cX6_figureNamed 11 = .ok (.getfield 27, 3) := by decide +kernel
theorem dX6_figureNamed_14 : decode cX6_figureNamed 14 = .ok (.aload_n 0, 1) := by decide +kernel
theorem dX6_figureNamed_15 : decode cX6_figureNamed 15 = .ok (.getfield 24, 3) := by decide +kernel
theorem dX6_figureNamed_18 : decode cX6_figureNamed 18 = .ok (.iload_n 1, 1) := by decide +kernel
theorem dX6_figureNamed_19 : decode cX6_figureNamed 19 = .ok (.aaload, 1) := by decide +kernel
theorem dX6_figureNamed_20 : decode cX6_figureNamed 20 = .ok (.getfield 180, 3) := by decide +kernel
theorem dX6_figureNamed_23 : decode cX6_figureNamed 23 = .ok (.aload_n 0, 1) := by decide +kernel
theorem dX6_figureNamed_24 : decode cX6_figureNamed 24 = .ok (.getfield 24, 3) := by decide +kernel
theorem dX6_figureNamed_27 : decode cX6_figureNamed 27 = .ok (.iload_n 1, 1) := by decide +kernel
theorem dX6_figureNamed_28 : decode cX6_figureNamed 28 = .ok (.aaload, 1) := by decide +kernel
theorem dX6_figureNamed_29 : decode cX6_figureNamed 29 = .ok (.getfield 183, 3) := by decide +kernel
theorem dX6_figureNamed_32 : decode cX6_figureNamed 32 = .ok (.invokevirtual 186, 3) := by decide +kernel
theorem dX6_figureNamed_35 : decode cX6_figureNamed 35 = .ok (.ifCond .eq 5, 3) := by decide +kernel
theorem dX6_figureNamed_38 : decode cX6_figureNamed 38 = .ok (.iload_n 1, 1) := by decide +kernel
theorem dX6_figureNamed_39 : decode cX6_figureNamed 39 = .ok (.ireturn, 1) := by decide +kernel
theorem dX6_figureNamed_40 : decode cX6_figureNamed 40 = .ok (.iinc 1 1, 3) := by decide +kernel
theorem dX6_figureNamed_43 : decode cX6_figureNamed 43 = .ok (.goto (-41), 3) := by decide +kernel
theorem dX6_figureNamed_46 : decode cX6_figureNamed 46 = .ok (.iconst (-1), 1) := by decide +kernel
theorem dX6_figureNamed_47 : decode cX6_figureNamed 47 = .ok (.ireturn, 1) := by decide +kernel
theorem dX6_tellRepeat_0 : decode cX6_tellRepeat 0 = .ok (.aload_n 0, 1) := by decide +kernel
theorem dX6_tellRepeat_1 : decode cX6_tellRepeat 1 = .ok (.getfield 27, 3) := by decide +kernel
theorem dX6_tellRepeat_4 : decode cX6_tellRepeat 4 = .ok (.iconst 0, 1) := by decide +kernel
theorem dX6_tellRepeat_5 : decode cX6_tellRepeat 5 = .ok (.bipush 20, 2) := by decide +kernel
theorem dX6_tellRepeat_7 : decode cX6_tellRepeat 7 = .ok (.invokevirtual 92, 3) := by decide +kernel
theorem dX6_tellRepeat_10 : decode cX6_tellRepeat 10 = .ok (.istore_n 1, 1) := by decide +kernel
theorem dX6_tellRepeat_11 : decode cX6_tellRepeat 11 = .ok (.aload_n 0, 1) := by decide +kernel
theorem dX6_tellRepeat_12 : decode cX6_tellRepeat 12 = .ok (.iconst 4, 1) := by decide +kernel
theorem dX6_tellRepeat_13 : decode cX6_tellRepeat 13 = .ok (.iload_n 1, 1) := by decide +kernel
theorem dX6_tellRepeat_14 : decode cX6_tellRepeat 14 = .ok (.invokevirtual 190, 3) := by decide +kernel
theorem dX6_tellRepeat_17 : decode cX6_tellRepeat 17 = .ok (.return_, 1) := by decide +kernel
theorem dX6_tellFigure_0 : decode cX6_tellFigure 0 = .ok (.aload_n 0, 1) := by decide +kernel
theorem dX6_tellFigure_1 : decode cX6_tellFigure 1 = .ok (.getfield 44, 3) := by decide +kernel
theorem dX6_tellFigure_4 : decode cX6_tellFigure 4 = .ok (.bipush 12, 2) := by decide +kernel
theorem dX6_tellFigure_6 : decode cX6_tellFigure 6 = .ok (.if_icmp .lt 18, 3) := by decide +kernel
theorem dX6_tellFigure_9 : decode cX6_tellFigure 9 = .ok (.aload_n 0, 1) := by decide +kernel
theorem dX6_tellFigure_10 : decode cX6_tellFigure 10 = .ok (.getfield 27, 3) := by decide +kernel
theorem dX6_tellFigure_13 : decode cX6_tellFigure 13 = .ok (.iconst 4, 1) := by decide +kernel
theorem dX6_tellFigure_14 : decode cX6_tellFigure 14 = .ok (.aload_n 0, 1) := by decide +kernel
theorem dX6_tellFigure_15 : decode cX6_tellFigure 15 = .ok (.getfield 27, 3) := by decide +kernel
theorem dX6_tellFigure_18 : decode cX6_tellFigure 18 = .ok (.getfield 135, 3) := by decide +kernel
theorem dX6_tellFigure_21 : decode cX6_tellFigure 21 = .ok (.invokevirtual 71, 3) := by decide +kernel
theorem dX6_tellFigure_24 : decode cX6_tellFigure 24 = .ok (.aload_n 0, 1) := by decide +kernel
theorem dX6_tellFigure_25 : decode cX6_tellFigure 25 = .ok (.getfield 27, 3) := by decide +kernel
theorem dX6_tellFigure_28 : decode cX6_tellFigure 28 = .ok (.invokevirtual 165, 3) := by decide +kernel
theorem dX6_tellFigure_31 : decode cX6_tellFigure 31 = .ok (.aload_n 0, 1) := by decide +kernel
theorem dX6_tellFigure_32 : decode cX6_tellFigure 32 = .ok (.invokevirtual 168, 3) := by decide +kernel
theorem dX6_tellFigure_35 : decode cX6_tellFigure 35 = .ok (.iconst (-1), 1) := by decide +kernel
theorem dX6_tellFigure_36 : decode cX6_tellFigure 36 = .ok (.if_icmp .eq 18, 3) := by decide +kernel
theorem dX6_tellFigure_39 : decode cX6_tellFigure 39 = .ok (.aload_n 0, 1) := by decide +kernel
theorem dX6_tellFigure_40 : decode cX6_tellFigure 40 = .ok (.getfield 27, 3) := by decide +kernel
theorem dX6_tellFigure_43 : decode cX6_tellFigure 43 = .ok (.iconst 3, 1) := by decide +kernel
theorem dX6_tellFigure_44 : decode cX6_tellFigure 44 = .ok (.aload_n 0, 1) := by decide +kernel
theorem dX6_tellFigure_45 : decode cX6_tellFigure 45 = .ok (.getfield 27, 3) := by decide +kernel
theorem dX6_tellFigure_48 : decode cX6_tellFigure 48 = .ok (.getfield 135, 3) := by decide +kernel
theorem dX6_tellFigure_51 : decode cX6_tellFigure 51 = .ok (.invokevirtual 71, 3) := by decide +kernel
theorem dX6_tellFigure_54 : decode cX6_tellFigure 54 = .ok (.aload_n 0, 1) := by decide +kernel
theorem dX6_tellFigure_55 : decode cX6_tellFigure 55 = .ok (.getfield 27, 3) := by decide +kernel
theorem dX6_tellFigure_58 : decode cX6_tellFigure 58 = .ok (.getfield 135, 3) := by decide +kernel
theorem dX6_tellFigure_61 : decode cX6_tellFigure 61 = .ok (.istore_n 1, 1) := by decide +kernel
theorem dX6_tellFigure_62 : decode cX6_tellFigure 62 = .ok (.aload_n 0, 1) := by decide +kernel
theorem dX6_tellFigure_63 : decode cX6_tellFigure 63 = .ok (.getfield 27, 3) := by decide +kernel
theorem dX6_tellFigure_66 : decode cX6_tellFigure 66 = .ok (.getfield 193, 3) := by decide +kernel
theorem dX6_tellFigure_69 : decode cX6_tellFigure 69 = .ok (.istore_n 2, 1) := by decide +kernel
theorem dX6_tellFigure_70 : decode cX6_tellFigure 70 = .ok (.aload_n 0, 1) := by decide +kernel
theorem dX6_tellFigure_71 : decode cX6_tellFigure 71 = .ok (.iconst 5, 1) := by decide +kernel
theorem dX6_tellFigure_72 : decode cX6_tellFigure 72 = .ok (.iconst (-1), 1) := by decide +kernel
theorem dX6_tellFigure_73 : decode cX6_tellFigure 73 = .ok (.invokevirtual 190, 3) := by decide +kernel
theorem dX6_tellFigure_76 : decode cX6_tellFigure 76 = .ok (.aload_n 0, 1) := by decide +kernel
theorem dX6_tellFigure_77 : decode cX6_tellFigure 77 = .ok (.getfield 20, 3) := by decide +kernel
theorem dX6_tellFigure_80 : decode cX6_tellFigure 80 = .ok (.aload_n 0, 1) := by decide +kernel
theorem dX6_tellFigure_81 : decode cX6_tellFigure 81 = .ok (.getfield 41, 3) := by decide +kernel
theorem dX6_tellFigure_84 : decode cX6_tellFigure 84 = .ok (.aaload, 1) := by decide +kernel
theorem dX6_tellFigure_85 : decode cX6_tellFigure 85 = .ok (.iload_n 1, 1) := by decide +kernel
theorem dX6_tellFigure_86 : decode cX6_tellFigure 86 = .ok (.putfield 180, 3) := by decide +kernel
theorem dX6_tellFigure_89 : decode cX6_tellFigure 89 = .ok (.aload_n 0, 1) := by decide +kernel
theorem dX6_tellFigure_90 : decode cX6_tellFigure 90 = .ok (.getfield 20, 3) := by decide +kernel
theorem dX6_tellFigure_93 : decode cX6_tellFigure 93 = .ok (.aload_n 0, 1) := by decide +kernel
theorem dX6_tellFigure_94 : decode cX6_tellFigure 94 = .ok (.getfield 41, 3) := by decide +kernel
theorem dX6_tellFigure_97 : decode cX6_tellFigure 97 = .ok (.aaload, 1) := by decide +kernel
theorem dX6_tellFigure_98 : decode cX6_tellFigure 98 = .ok (.iload_n 2, 1) := by decide +kernel
theorem dX6_tellFigure_99 : decode cX6_tellFigure 99 = .ok (.putfield 183, 3) := by decide +kernel
theorem dX6_tellFigure_102 : decode cX6_tellFigure 102 = .ok (.return_, 1) := by decide +kernel
theorem dX6_tellOpen_0 : decode cX6_tellOpen 0 = .ok (.aload_n 0, 1) := by decide +kernel
theorem dX6_tellOpen_1 : decode cX6_tellOpen 1 = .ok (.getfield 27, 3) := by decide +kernel
theorem dX6_tellOpen_4 : decode cX6_tellOpen 4 = .ok (.bipush 91, 2) := by decide +kernel
theorem dX6_tellOpen_6 : decode cX6_tellOpen 6 = .ok (.invokevirtual 141, 3) := by decide +kernel
theorem dX6_tellOpen_9 : decode cX6_tellOpen 9 = .ok (.aload_n 0, 1) := by decide +kernel
theorem dX6_tellOpen_10 : decode cX6_tellOpen 10 = .ok (.getfield 41, 3) := by decide +kernel
theorem dX6_tellOpen_13 : decode cX6_tellOpen 13 = .ok (.bipush 6, 2) := by decide +kernel
theorem dX6_tellOpen_15 : decode cX6_tellOpen 15 = .ok (.if_icmp .lt 20, 3) := by decide +kernel
theorem dX6_tellOpen_18 : decode cX6_tellOpen 18 = .ok (.aload_n 0, 1) := by decide +kernel
theorem dX6_tellOpen_19 : decode cX6_tellOpen 19 = .ok (.getfield 27, 3) := by decide +kernel
theorem dX6_tellOpen_22 : decode cX6_tellOpen 22 = .ok (.iconst 4, 1) := by decide +kernel
theorem dX6_tellOpen_23 : decode cX6_tellOpen 23 = .ok (.aload_n 0, 1) := by decide +kernel
theorem dX6_tellOpen_24 : decode cX6_tellOpen 24 = .ok (.getfield 27, 3) := by decide +kernel
theorem dX6_tellOpen_27 : decode cX6_tellOpen 27 = .ok (.invokevirtual 196, 3) := by decide +kernel
theorem dX6_tellOpen_30 : decode cX6_tellOpen 30 = .ok (.iconst 1, 1) := by decide +kernel
theorem dX6_tellOpen_31 : decode cX6_tellOpen 31 = .ok (.isub, 1) := by decide +kernel
theorem dX6_tellOpen_32 : decode cX6_tellOpen 32 = .ok (.invokevirtual 71, 3) := by decide +kernel
theorem dX6_tellOpen_35 : decode cX6_tellOpen 35 = .ok (.aload_n 0, 1) := by decide +kernel
theorem dX6_tellOpen_36 : decode cX6_tellOpen 36 = .ok (.getfield 27, 3) := by decide +kernel
theorem dX6_tellOpen_39 : decode cX6_tellOpen 39 = .ok (.getfield 74, 3) := by decide +kernel
theorem dX6_tellOpen_42 : decode cX6_tellOpen 42 = .ok (.ifCond .ne 43, 3) := by decide +kernel
theorem dX6_tellOpen_45 : decode cX6_tellOpen 45 = .ok (.aload_n 0, 1) := by decide +kernel
theorem dX6_tellOpen_46 : decode cX6_tellOpen 46 = .ok (.dup, 1) := by decide +kernel
theorem dX6_tellOpen_47 : decode cX6_tellOpen 47 = .ok (.getfield 41, 3) := by decide +kernel
theorem dX6_tellOpen_50 : decode cX6_tellOpen 50 = .ok (.iconst 1, 1) := by decide +kernel
theorem dX6_tellOpen_51 : decode cX6_tellOpen 51 = .ok (.iadd, 1) := by decide +kernel
theorem dX6_tellOpen_52 : decode cX6_tellOpen 52 = .ok (.putfield 41, 3) := by decide +kernel
theorem dX6_tellOpen_55 : decode cX6_tellOpen 55 = .ok (.aload_n 0, 1) := by decide +kernel
theorem dX6_tellOpen_56 : decode cX6_tellOpen 56 = .ok (.getfield 20, 3) := by decide +kernel
theorem dX6_tellOpen_59 : decode cX6_tellOpen 59 = .ok (.aload_n 0, 1) := by decide +kernel
theorem dX6_tellOpen_60 : decode cX6_tellOpen 60 = .ok (.getfield 41, 3) := by decide +kernel
theorem dX6_tellOpen_63 : decode cX6_tellOpen 63 = .ok (.aaload, 1) := by decide +kernel
theorem dX6_tellOpen_64 : decode cX6_tellOpen 64 = .ok (.aload_n 0, 1) := by decide +kernel
theorem dX6_tellOpen_65 : decode cX6_tellOpen 65 = .ok (.getfield 12, 3) := by decide +kernel
theorem dX6_tellOpen_68 : decode cX6_tellOpen 68 = .ok (.getfield 37, 3) := by decide +kernel
theorem dX6_tellOpen_71 : decode cX6_tellOpen 71 = .ok (.iload_n 2, 1) := by decide +kernel
theorem dX6_tellOpen_72 : decode cX6_tellOpen 72 = .ok (.invokevirtual 47, 3) := by decide +kernel
theorem dX6_tellOpen_75 : decode cX6_tellOpen 75 = .ok (.aload_n 0, 1) := by decide +kernel
theorem dX6_tellOpen_76 : decode cX6_tellOpen 76 = .ok (.getfield 12, 3) := by decide +kernel
theorem dX6_tellOpen_79 : decode cX6_tellOpen 79 = .ok (.iload_n 1, 1) := by decide +kernel
theorem dX6_tellOpen_80 : decode cX6_tellOpen 80 = .ok (.iload_n 2, 1) := by decide +kernel
theorem dX6_tellOpen_81 : decode cX6_tellOpen 81 = .ok (.iconst 0, 1) := by decide +kernel
theorem dX6_tellOpen_82 : decode cX6_tellOpen 82 = .ok (.invokevirtual 145, 3) := by decide +kernel
theorem dX6_tellOpen_85 : decode cX6_tellOpen 85 = .ok (.return_, 1) := by decide +kernel
theorem dX6_close_0 : decode cX6_close 0 = .ok (.aload_n 0, 1) := by decide +kernel
theorem dX6_close_1 : decode cX6_close 1 = .ok (.getfield 20, 3) := by decide +kernel
theorem dX6_close_4 : decode cX6_close 4 = .ok (.aload_n 0, 1) := by decide +kernel
theorem dX6_close_5 : decode cX6_close 5 = .ok (.getfield 41, 3) := by decide +kernel
theorem dX6_close_8 : decode cX6_close 8 = .ok (.aaload, 1) := by decide +kernel
theorem dX6_close_9 : decode cX6_close 9 = .ok (.astore_n 1, 1) := by decide +kernel
theorem dX6_close_10 : decode cX6_close 10 = .ok (.aload_n 0, 1) := by decide +kernel
theorem dX6_close_11 : decode cX6_close 11 = .ok (.dup, 1) := by decide +kernel
theorem dX6_close_12 : decode cX6_close 12 = .ok (.getfield 41, 3) := by decide +kernel
theorem dX6_close_15 : decode cX6_close 15 = .ok (.iconst 1, 1) := by decide +kernel
theorem dX6_close_16 : decode cX6_close 16 = .ok (.isub, 1) := by decide +kernel
theorem dX6_close_17 : decode cX6_close 17 = .ok (.putfield 41, 3) := by decide +kernel
theorem dX6_close_20 : decode cX6_close 20 = .ok (.aload_n 1, 1) := by decide +kernel
theorem dX6_close_21 : decode cX6_close 21 = .ok (.getfield 65, 3) := by decide +kernel
theorem dX6_close_24 : decode cX6_close 24 = .ok (.ifCond .eq 10, 3) := by decide +kernel
theorem dX6_close_27 : decode cX6_close 27 = .ok (.aload_n 1, 1) := by decide +kernel
theorem dX6_close_28 : decode cX6_close 28 = .ok (.getfield 199, 3) := by decide +kernel
theorem dX6_close_31 : decode cX6_close 31 = .ok (.ifCond .ne 17, 3) := by decide +kernel
theorem dX6_close_34 : decode cX6_close 34 = .ok (.aload_n 0, 1) := by decide +kernel
theorem dX6_close_35 : decode cX6_close 35 = .ok (.getfield 12, 3) := by decide +kernel
theorem dX6_close_38 : decode cX6_close 38 = .ok (.aload_n 1, 1) := by decide +kernel
theorem dX6_close_39 : decode cX6_close 39 = .ok (.getfield 177, 3) := by decide +kernel
theorem dX6_close_42 : decode cX6_close 42 = .ok (.putfield 37, 3) := by decide +kernel
theorem dX6_close_45 : decode cX6_close 45 = .ok (.goto 14, 3) := by decide +kernel
theorem dX6_close_48 : decode cX6_close 48 = .ok (.aload_n 0, 1) := by decide +kernel
theorem dX6_close_49 : decode cX6_close 49 = .ok (.getfield 12, 3) := by decide +kernel
theorem dX6_close_52 : decode cX6_close 52 = .ok (.bipush 7, 2) := by decide +kernel
theorem dX6_close_54 : decode cX6_close 54 = .ok (.iconst 0, 1) := by decide +kernel
theorem dX6_close_55 : decode cX6_close 55 = .ok (.iconst 0, 1) := by decide +kernel
theorem dX6_close_56 : decode cX6_close 56 = .ok (.invokevirtual 145, 3) := by decide +kernel
theorem dX6_close_59 : decode cX6_close 59 = .ok (.aload_n 1, 1) := by decide +kernel
theorem dX6_close_60 : decode cX6_close 60 = .ok (.getfield 199, 3) := by decide +kernel
theorem dX6_close_63 : decode cX6_close 63 = .ok (.iconst (-1), 1) := by decide +kernel
theorem dX6_close_64 : decode cX6_close 64 = .ok (.if_icmp .ne 11, 3) := by decide +kernel
theorem dX6_close_67 : decode cX6_close 67 = .ok (.aload_n 0, 1) := by decide +kernel
theorem dX6_close_68 : decode cX6_close 68 = .ok (.aload_n 1, 1) := by decide +kernel
theorem dX6_close_69 : decode cX6_close 69 = .ok (.invokevirtual 202, 3) := by decide +kernel
theorem dX6_close_72 : decode cX6_close 72 = .ok (.goto 15, 3) := by decide +kernel
theorem dX6_close_75 : decode cX6_close 75 = .ok (.aload_n 1, 1) := by decide +kernel
theorem dX6_close_76 : decode cX6_close 76 = .ok (.getfield 199, 3) := by decide +kernel
theorem dX6_close_79 : decode cX6_close 79 = .ok (.ifCond .le 8, 3) := by decide +kernel
theorem dX6_close_82 : decode cX6_close 82 = .ok (.aload_n 0, 1) := by decide +kernel
theorem dX6_close_83 : decode cX6_close 83 = .ok (.aload_n 1, 1) := by decide +kernel
theorem dX6_close_84 : decode cX6_close 84 = .ok (.invokevirtual 206, 3) := by decide +kernel
theorem dX6_close_87 : decode cX6_close 87 = .ok (.aload_n 0, 1) := by decide +kernel
theorem dX6_close_88 : decode cX6_close 88 = .ok (.getfield 27, 3) := by decide +kernel
theorem dX6_close_91 : decode cX6_close 91 = .ok (.bipush 59, 2) := by decide +kernel
theorem dX6_close_93 : decode cX6_close 93 = .ok (.invokevirtual 141, 3) := by decide +kernel
theorem dX6_close_96 : decode cX6_close 96 = .ok (.return_, 1) := by decide +kernel
theorem dX6_closeRepeat_0 : decode cX6_closeRepeat 0 = .ok (.aload_n 1, 1) := by decide +kernel
theorem dX6_closeRepeat_1 : decode cX6_closeRepeat 1 = .ok (.getfield 65, 3) := by decide +kernel
theorem dX6_closeRepeat_4 : decode cX6_closeRepeat 4 = .ok (.ifCond .ne 18, 3) := by decide +kernel
theorem dX6_closeRepeat_7 : decode cX6_closeRepeat 7 = .ok (.aload_n 0, 1) := by decide +kernel
theorem dX6_closeRepeat_8 : decode cX6_closeRepeat 8 = .ok (.aload_n 1, 1) := by decide +kernel
theorem dX6_closeRepeat_9 : decode cX6_closeRepeat 9 = .ok (.getfield 172, 3) := by decide +kernel
theorem dX6_closeRepeat_12 : decode cX6_closeRepeat 12 = .ok (.aload_n 1, 1) := by decide +kernel
theorem dX6_closeRepeat_13 : decode cX6_closeRepeat 13 = .ok (.getfield 175, 3) := by decide +kernel
theorem dX6_closeRepeat_16 : decode cX6_closeRepeat 16 = .ok (.invokevirtual 138, 3) := by decide +kernel
theorem dX6_closeRepeat_19 : decode cX6_closeRepeat 19 = .ok (.goto 24, 3) := by decide +kernel
theorem dX6_closeRepeat_22 : decode cX6_closeRepeat 22 = .ok (.aload_n 0, 1) := by decide +kernel
theorem dX6_closeRepeat_23 : decode cX6_closeRepeat 23 = .ok (.getfield 20, 3) := by decide +kernel
theorem dX6_closeRepeat_26 : decode cX6_closeRepeat 26 = .ok (.aload_n 0, 1) := by decide +kernel
theorem dX6_closeRepeat_27 : decode cX6_closeRepeat 27 = .ok (.getfield 41, 3) := by decide +kernel
theorem dX6_closeRepeat_30 : decode cX6_closeRepeat 30 = .ok (.aaload, 1) := by decide +kernel
theorem dX6_closeRepeat_31 : decode cX6_closeRepeat 31 = .ok (.aload_n 1, 1) := by decide +kernel
theorem dX6_closeRepeat_32 : decode cX6_closeRepeat 32 = .ok (.getfield 199, 3) := by decide +kernel
theorem dX6_closeRepeat_35 : decode cX6_closeRepeat 35 = .ok (.aload_n 1, 1) := by decide +kernel
theorem dX6_closeRepeat_36 : decode cX6_closeRepeat 36 = .ok (.getfield 65, 3) := by decide +kernel
theorem dX6_closeRepeat_39 : decode cX6_closeRepeat 39 = .ok (.imul, 1) := by decide +kernel
theorem dX6_closeRepeat_40 : decode cX6_closeRepeat 40 = .ok (.invokevirtual 149, 3) := by decide +kernel
theorem dX6_closeRepeat_43 : decode cX6_closeRepeat 43 = .ok (.return_, 1) := by decide +kernel
theorem dX6_closeFigure_0 : decode cX6_closeFigure 0 = .ok (.aload_n 1, 1) := by decide +kernel
theorem dX6_closeFigure_1 : decode cX6_closeFigure 1 = .ok (.getfield 65, 3) := by decide +kernel
theorem dX6_closeFigure_4 : decode cX6_closeFigure 4 = .ok (.ifCond .le 14, 3) := by decide +kernel
theorem dX6_closeFigure_7 : decode cX6_closeFigure 7 = .ok (.aload_n 0, 1) := by decide +kernel
theorem dX6_closeFigure_8 : decode cX6_closeFigure 8 = .ok (.getfield 12, 3) := by decide +kernel
theorem dX6_closeFigure_11 : decode cX6_closeFigure 11 = .ok (.aload_n 1, 1) := by decide +kernel
theorem dX6_closeFigure_12 : decode cX6_closeFigure 12 = .ok (.getfield 177, 3) := by decide +kernel
theorem dX6_closeFigure_15 : decode cX6_closeFigure 15 = .ok (.invokevirtual 209, 3) := by decide +kernel
theorem dX6_closeFigure_18 : decode cX6_closeFigure 18 = .ok (.aload_n 0, 1) := by decide +kernel
theorem dX6_closeFigure_19 : decode cX6_closeFigure 19 = .ok (.getfield 44, 3) := by decide +kernel
theorem dX6_closeFigure_22 : decode cX6_closeFigure 22 = .ok (.bipush 12, 2) := by decide +kernel
theorem dX6_closeFigure_24 : decode cX6_closeFigure 24 = .ok (.if_icmp .ge 43, 3) := by decide +kernel
theorem dX6_closeFigure_27 : decode cX6_closeFigure 27 = .ok (.aload_n 0, 1) := by decide +kernel
theorem dX6_closeFigure_28 : decode cX6_closeFigure 28 = .ok (.getfield 20, 3) := by decide +kernel
theorem dX6_closeFigure_31 : decode cX6_closeFigure 31 = .ok (.aload_n 0, 1) := by decide +kernel
theorem dX6_closeFigure_32 : decode cX6_closeFigure 32 = .ok (.getfield 41, 3) := by decide +kernel
theorem dX6_closeFigure_35 : decode cX6_closeFigure 35 = .ok (.iconst 1, 1) := by decide +kernel
theorem dX6_closeFigure_36 : decode cX6_closeFigure 36 = .ok (.iadd, 1) := by decide +kernel
theorem dX6_closeFigure_37 : decode cX6_closeFigure 37 = .ok (.aload_n 0, 1) := by decide +kernel
theorem dX6_closeFigure_38 : decode cX6_closeFigure 38 = .ok (.getfield 24, 3) := by decide +kernel
theorem dX6_closeFigure_41 : decode cX6_closeFigure 41 = .ok (.aload_n 0, 1) := by decide +kernel
theorem dX6_closeFigure_42 : decode cX6_closeFigure 42 = .ok (.getfield 44, 3) := by decide +kernel
theorem dX6_closeFigure_45 : decode cX6_closeFigure 45 = .ok (.aaload, 1) := by decide +kernel
theorem dX6_closeFigure_46 : decode cX6_closeFigure 46 = .ok (.aastore, 1) := by decide +kernel
theorem dX6_closeFigure_47 : decode cX6_closeFigure 47 = .ok (.aload_n 0, 1) := by decide +kernel
theorem dX6_closeFigure_48 : decode cX6_closeFigure 48 = .ok (.getfield 24, 3) := by decide +kernel
theorem dX6_closeFigure_51 : decode cX6_closeFigure 51 = .ok (.aload_n 0, 1) := by decide +kernel
theorem dX6_closeFigure_52 : decode cX6_closeFigure 52 = .ok (.getfield 44, 3) := by decide +kernel
theorem dX6_closeFigure_55 : decode cX6_closeFigure 55 = .ok (.aload_n 1, 1) := by decide +kernel
theorem dX6_closeFigure_56 : decode cX6_closeFigure 56 = .ok (.aastore, 1) := by decide +kernel
theorem dX6_closeFigure_57 : decode cX6_closeFigure 57 = .ok (.aload_n 0, 1) := by decide +kernel
theorem dX6_closeFigure_58 : decode cX6_closeFigure 58 = .ok (.dup, 1) := by decide +kernel
theorem dX6_closeFigure_59 : decode cX6_closeFigure 59 = .ok (.getfield 44, 3) := by decide +kernel
theorem dX6_closeFigure_62 : decode cX6_closeFigure 62 = .ok (.iconst 1, 1) := by decide +kernel
theorem dX6_closeFigure_63 : decode cX6_closeFigure 63 = .ok (.iadd, 1) := by decide +kernel
theorem dX6_closeFigure_64 : decode cX6_closeFigure 64 = .ok (.putfield 44, 3) := by decide +kernel
theorem dX6_closeFigure_67 : decode cX6_closeFigure 67 = .ok (.return_, 1) := by decide +kernel
theorem dX7_init_0 : decode cX7_init 0 = .ok (.aload_n 0, 1) := by decide +kernel
theorem dX7_init_1 : decode cX7_init 1 = .ok (.invokespecial 3, 3) := by decide +kernel
theorem dX7_init_4 : decode cX7_init 4 = .ok (.aload_n 0, 1) := by decide +kernel
theorem dX7_init_5 : decode cX7_init 5 = .ok (.bipush (-50), 2) := by decide +kernel
theorem dX7_init_7 : decode cX7_init 7 = .ok (.putfield 9, 3) := by decide +kernel
theorem dX7_init_10 : decode cX7_init 10 = .ok (.aload_n 0, 1) := by decide +kernel
theorem dX7_init_11 : decode cX7_init 11 = .ok (.iconst 0, 1) := by decide +kernel
theorem dX7_init_12 : decode cX7_init 12 = .ok (.putfield 15, 3) := by decide +kernel
theorem dX7_init_15 : decode cX7_init 15 = .ok (.aload_n 0, 1) := by decide +kernel
theorem dX7_init_16 : decode cX7_init 16 = .ok (.bipush 50, 2) := by decide +kernel
theorem dX7_init_18 : decode cX7_init 18 = .ok (.putfield 18, 3) := by decide +kernel
theorem dX7_init_21 : decode cX7_init 21 = .ok (.aload_n 0, 1) := by decide +kernel
theorem dX7_init_22 : decode cX7_init 22 = .ok (.bipush 80, 2) := by decide +kernel
theorem dX7_init_24 : decode cX7_init 24 = .ok (.putfield 21, 3) := by decide +kernel
theorem dX7_init_27 : decode cX7_init 27 = .ok (.aload_n 0, 1) := by decide +kernel
theorem dX7_init_28 : decode cX7_init 28 = .ok (.bipush (-60), 2) := by decide +kernel
theorem dX7_init_30 : decode cX7_init 30 = .ok (.putfield 24, 3) := by decide +kernel
theorem dX7_init_33 : decode cX7_init 33 = .ok (.aload_n 0, 1) := by decide +kernel
theorem dX7_init_34 : decode cX7_init 34 = .ok (.bipush (-40), 2) := by decide +kernel
theorem dX7_init_36 : decode cX7_init 36 = .ok (.putfield 27, 3) := by decide +kernel
theorem dX7_init_39 : decode cX7_init 39 = .ok (.aload_n 0, 1) := by decide +kernel
theorem dX7_init_40 : decode cX7_init 40 = .ok (.bipush 60, 2) := by decide +kernel
theorem dX7_init_42 : decode cX7_init 42 = .ok (.putfield 30, 3) := by decide +kernel
theorem dX7_init_45 : decode cX7_init 45 = .ok (.aload_n 0, 1) := by decide +kernel
theorem dX7_init_46 : decode cX7_init 46 = .ok (.bipush (-40), 2) := by decide +kernel
theorem dX7_init_48 : decode cX7_init 48 = .ok (.putfield 33, 3) := by decide +kernel
theorem dX7_init_51 : decode cX7_init 51 = .ok (.aload_n 0, 1) := by decide +kernel
theorem dX7_init_52 : decode cX7_init 52 = .ok (.iconst 0, 1) := by decide +kernel
theorem dX7_init_53 : decode cX7_init 53 = .ok (.putfield 36, 3) := by decide +kernel
theorem dX7_init_56 : decode cX7_init 56 = .ok (.aload_n 0, 1) := by decide +kernel
theorem dX7_init_57 : decode cX7_init 57 = .ok (.iconst 4, 1) := by decide +kernel
theorem dX7_init_58 : decode cX7_init 58 = .ok (.putfield 39, 3) := by decide +kernel
theorem dX7_init_61 : decode cX7_init 61 = .ok (.aload_n 0, 1) := by decide +kernel
theorem dX7_init_62 : decode cX7_init 62 = .ok (.iconst 0, 1) := by decide +kernel
theorem dX7_init_63 : decode cX7_init 63 = .ok (.putfield 42, 3) := by decide +kernel
theorem dX7_init_66 : decode cX7_init 66 = .ok (.aload_n 0, 1) := by decide +kernel
theorem dX7_init_67 : decode cX7_init 67 = .ok (.bipush 8, 2) := by decide +kernel
theorem dX7_init_69 : decode cX7_init 69 = .ok (.newarray .boolean, 2) := by decide +kernel
theorem dX7_init_71 : decode cX7_init 71 = .ok (.putfield 45, 3) := by decide +kernel
theorem dX7_init_74 : decode cX7_init 74 = .ok (.aload_n 0, 1) := by decide +kernel
theorem dX7_init_75 : decode cX7_init 75 = .ok (.bipush 8, 2) := by decide +kernel
theorem dX7_init_77 : decode cX7_init 77 = .ok (.newarray .int, 2) := by decide +kernel
theorem dX7_init_79 : decode cX7_init 79 = .ok (.putfield 49, 3) := by decide +kernel
theorem dX7_init_82 : decode cX7_init 82 = .ok (.aload_n 0, 1) := by decide +kernel
theorem dX7_init_83 : decode cX7_init 83 = .ok (.bipush 8, 2) := by decide +kernel
theorem dX7_init_85 : decode cX7_init 85 = .ok (.newarray .int, 2) := by decide +kernel
theorem dX7_init_87 : decode cX7_init 87 = .ok (.putfield 53, 3) := by decide +kernel
theorem dX7_init_90 : decode cX7_init 90 = .ok (.aload_n 0, 1) := by decide +kernel
theorem dX7_init_91 : decode cX7_init 91 = .ok (.bipush 12, 2) := by decide +kernel
theorem dX7_init_93 : decode cX7_init 93 = .ok (.newarray .boolean, 2) := by decide +kernel
theorem dX7_init_95 : decode cX7_init 95 = .ok (.putfield 56, 3) := by decide +kernel
theorem dX7_init_98 : decode cX7_init 98 = .ok (.aload_n 0, 1) := by decide +kernel
theorem dX7_init_99 : decode cX7_init 99 = .ok (.bipush 12, 2) := by decide +kernel
theorem dX7_init_101 : decode cX7_init 101 = .ok (.iconst 4, 1) := by decide +kernel
theorem dX7_init_102 : decode cX7_init 102 = .ok (.multianewarray 59 2, 4) := by decide +kernel
theorem dX7_init_106 : decode cX7_init 106 = .ok (.putfield 61, 3) := by decide +kernel
theorem dX7_init_109 : decode cX7_init 109 = .ok (.aload_n 0, 1) := by decide +kernel
theorem dX7_init_110 : decode cX7_init 110 = .ok (.bipush 12, 2) := by decide +kernel
theorem dX7_init_112 : decode cX7_init 112 = .ok (.newarray .boolean, 2) := by decide +kernel
theorem dX7_init_114 : decode cX7_init 114 = .ok (.putfield 64, 3) := by decide +kernel
theorem dX7_init_117 : decode cX7_init 117 = .ok (.aload_n 0, 1) := by decide +kernel
theorem dX7_init_118 : decode cX7_init 118 = .ok (.bipush 8, 2) := by decide +kernel
theorem dX7_init_120 : decode cX7_init 120 = .ok (.newarray .boolean, 2) := by decide +kernel
theorem dX7_init_122 : decode cX7_init 122 = .ok (.putfield 67, 3) := by decide +kernel
theorem dX7_init_125 : decode cX7_init 125 = .ok (.aload_n 0, 1) := by decide +kernel
theorem dX7_init_126 : decode cX7_init 126 = .ok (.bipush 8, 2) := by decide +kernel
theorem dX7_init_128 : decode cX7_init 128 = .ok (.iconst 4, 1) := by decide +kernel
theorem dX7_init_129 : decode cX7_init 129 = .ok (.multianewarray 59 2, 4) := by decide +kernel
theorem dX7_init_133 : decode cX7_init 133 = .ok (.putfield 70, 3) := by decide +kernel
theorem dX7_init_136 : decode cX7_init 136 = .ok (.return_, 1) := by decide +kernel
theorem dX7_hasSeat_0 : decode cX7_hasSeat 0 = .ok (.iload_n 1, 1) := by decide +kernel
theorem dX7_hasSeat_1 : decode cX7_hasSeat 1 = .ok (.ifCond .lt 22, 3) := by decide +kernel
theorem dX7_hasSeat_4 : decode cX7_hasSeat 4 = .ok (.iload_n 1, 1) := by decide +kernel
theorem dX7_hasSeat_5 : decode cX7_hasSeat 5 = .ok (.bipush 8, 2) := by decide +kernel
theorem dX7_hasSeat_7 : decode cX7_hasSeat 7 = .ok (.if_icmp .ge 16, 3) := by decide +kernel
theorem dX7_hasSeat_10 : decode cX7_hasSeat 10 = .ok (.aload_n 0, 1) := by decide +kernel
theorem dX7_hasSeat_11 : decode cX7_hasSeat 11 = .ok (.getfield 45, 3) := by decide +kernel
theorem dX7_hasSeat_14 : decode cX7_hasSeat 14 = .ok (.iload_n 1, 1) := by decide +kernel
theorem dX7_hasSeat_15 : decode cX7_hasSeat 15 = .ok (.baload, 1) := by decide +kernel
theorem dX7_hasSeat_16 : decode cX7_hasSeat 16 = .ok (.ifCond .eq 7, 3) := by decide +kernel
theorem dX7_hasSeat_19 : decode cX7_hasSeat 19 = .ok (.iconst 1, 1) := by decide +kernel
theorem dX7_hasSeat_20 : decode cX7_hasSeat 20 = .ok (.goto 4, 3) := by decide +kernel
theorem dX7_hasSeat_23 : decode cX7_hasSeat 23 = .ok (.iconst 0, 1) := by decide +kernel
theorem dX7_hasSeat_24 : decode cX7_hasSeat 24 = .ok (.ireturn, 1) := by decide +kernel
theorem dX7_hasWall_0 : decode cX7_hasWall 0 = .ok (.iload_n 1, 1) := by decide +kernel
theorem dX7_hasWall_1 : decode cX7_hasWall 1 = .ok (.ifCond .lt 22, 3) := by decide +kernel
theorem dX7_hasWall_4 : decode cX7_hasWall 4 = .ok (.iload_n 1, 1) := by decide +kernel
theorem dX7_hasWall_5 : decode cX7_hasWall 5 = .ok (.bipush 12, 2) := by decide +kernel
theorem dX7_hasWall_7 : decode cX7_hasWall 7 = .ok (.if_icmp .ge 16, 3) := by decide +kernel
theorem dX7_hasWall_10 : decode cX7_hasWall 10 = .ok (.aload_n 0, 1) := by decide +kernel
theorem dX7_hasWall_11 : decode cX7_hasWall 11 = .ok (.getfield 56, 3) := by decide +kernel
theorem dX7_hasWall_14 : decode cX7_hasWall 14 = .ok (.iload_n 1, 1) := by decide +kernel
theorem dX7_hasWall_15 : decode cX7_hasWall 15 = .ok (.baload, 1) := by decide +kernel
theorem dX7_hasWall_16 : decode cX7_hasWall 16 = .ok (.ifCond .eq 7, 3) := by decide +kernel
theorem dX7_hasWall_19 : decode cX7_hasWall 19 = .ok (.iconst 1, 1) := by decide +kernel
theorem dX7_hasWall_20 : decode cX7_hasWall 20 = .ok (.goto 4, 3) := by decide +kernel
theorem dX7_hasWall_23 : decode cX7_hasWall 23 = .ok (.iconst 0, 1) := by decide +kernel
theorem dX7_hasWall_24 : decode cX7_hasWall 24 = .ok (.ireturn, 1) := by decide +kernel
theorem dX8_init_0 : decode cX8_init 0 = .ok (.aload_n 0, 1) := by decide +kernel
theorem dX8_init_1 : decode cX8_init 1 = .ok (.invokespecial 3, 3) := by decide +kernel
theorem dX8_init_4 : decode cX8_init 4 = .ok (.aload_n 0, 1) := by decide +kernel
theorem dX8_init_5 : decode cX8_init 5 = .ok (.aload_n 1, 1) := by decide +kernel
theorem dX8_init_6 : decode cX8_init 6 = .ok (.putfield 9, 3) := by decide +kernel
theorem dX8_init_9 : decode cX8_init 9 = .ok (.aload_n 0, 1) := by decide +kernel
theorem dX8_init_10 : decode cX8_init 10 = .ok (.aload_n 2, 1) := by decide +kernel
theorem dX8_init_11 : decode cX8_init 11 = .ok (.putfield 15, 3) := by decide +kernel
theorem dX8_init_14 : decode cX8_init 14 = .ok (.aload_n 0, 1) := by decide +kernel
theorem dX8_init_15 : decode cX8_init 15 = .ok (.new 19, 3) := by decide +kernel
theorem dX8_init_18 : decode cX8_init 18 = .ok (.dup, 1) := by decide +kernel
theorem dX8_init_19 : decode cX8_init 19 = .ok (.invokespecial 21, 3) := by decide +kernel
theorem dX8_init_22 : decode cX8_init 22 = .ok (.putfield 22, 3) := by decide +kernel
theorem dX8_init_25 : decode cX8_init 25 = .ok (.return_, 1) := by decide +kernel
theorem dX8_layOwn_0 : decode cX8_layOwn 0 = .ok (.aload_n 0, 1) := by decide +kernel
theorem dX8_layOwn_1 : decode cX8_layOwn 1 = .ok (.getfield 22, 3) := by decide +kernel
theorem dX8_layOwn_4 : decode cX8_layOwn 4 = .ok (.aload_n 0, 1) := by decide +kernel
theorem dX8_layOwn_5 : decode cX8_layOwn 5 = .ok (.getfield 9, 3) := by decide +kernel
theorem dX8_layOwn_8 : decode cX8_layOwn 8 = .ok (.aload_n 0, 1) := by decide +kernel
theorem dX8_layOwn_9 : decode cX8_layOwn 9 = .ok (.getfield 9, 3) := by decide +kernel
theorem dX8_layOwn_12 : decode cX8_layOwn 12 = .ok (.getfield 26, 3) := by decide +kernel
theorem dX8_layOwn_15 : decode cX8_layOwn 15 = .ok (.aload_n 0, 1) := by decide +kernel
theorem dX8_layOwn_16 : decode cX8_layOwn 16 = .ok (.getfield 9, 3) := by decide +kernel
theorem dX8_layOwn_19 : decode cX8_layOwn 19 = .ok (.getfield 32, 3) := by decide +kernel
theorem dX8_layOwn_22 : decode cX8_layOwn 22 = .ok (.aload_n 0, 1) := by decide +kernel
theorem dX8_layOwn_23 : decode cX8_layOwn 23 = .ok (.getfield 9, 3) := by decide +kernel
theorem dX8_layOwn_26 : decode cX8_layOwn 26 = .ok (.getfield 35, 3) := by decide +kernel
theorem dX8_layOwn_29 : decode cX8_layOwn 29 = .ok (.invokevirtual 38, 3) := by decide +kernel
theorem dX8_layOwn_32 : decode cX8_layOwn 32 = .ok (.return_, 1) := by decide +kernel
theorem dX8_laySetting_0 : decode cX8_laySetting 0 = .ok (.aload_n 0, 1) := by decide +kernel
theorem dX8_laySetting_1 : decode cX8_laySetting 1 = .ok (.getfield 22, 3) := by decide +kernel
theorem dX8_laySetting_4 : decode cX8_laySetting 4 = .ok (.aload_n 0, 1) := by decide +kernel
theorem dX8_laySetting_5 : decode cX8_laySetting 5 = .ok (.getfield 9, 3) := by decide +kernel
theorem dX8_laySetting_8 : decode cX8_laySetting 8 = .ok (.aload_n 1, 1) := by decide +kernel
theorem dX8_laySetting_9 : decode cX8_laySetting 9 = .ok (.aload_n 0, 1) := by decide +kernel
theorem dX8_laySetting_10 : decode cX8_laySetting 10 = .ok (.getfield 9, 3) := by decide +kernel
theorem dX8_laySetting_13 : decode cX8_laySetting 13 = .ok (.iload_n 2, 1) := by decide +kernel
theorem dX8_laySetting_14 : decode cX8_laySetting 14 = .ok (.invokevirtual 42, 3) := by decide +kernel
theorem dX8_laySetting_17 : decode cX8_laySetting 17 = .ok (.aload_n 1, 1) := by decide +kernel
theorem dX8_laySetting_18 : decode cX8_laySetting 18 = .ok (.aload_n 0, 1) := by decide +kernel
theorem dX8_laySetting_19 : decode cX8_laySetting 19 = .ok (.getfield 9, 3) := by decide +kernel
theorem dX8_laySetting_22 : decode cX8_laySetting 22 = .ok (.iload_n 2, 1) := by decide +kernel
theorem dX8_laySetting_23 : decode cX8_laySetting 23 = .ok (.invokevirtual 48, 3) := by decide +kernel
theorem dX8_laySetting_26 : decode cX8_laySetting 26 = .ok (.aload_n 1, 1) := by decide +kernel
theorem dX8_laySetting_27 : decode cX8_laySetting 27 = .ok (.aload_n 0, 1) := by decide +kernel
theorem dX8_laySetting_28 : decode cX8_laySetting 28 = .ok (.getfield 9, 3) := by decide +kernel
theorem dX8_laySetting_31 : decode cX8_laySetting 31 = .ok (.iload_n 2, 1) := by decide +kernel
theorem dX8_laySetting_32 : decode cX8_laySetting 32 = .ok (.invokevirtual 51, 3) := by decide +kernel
theorem dX8_laySetting_35 : decode cX8_laySetting 35 = .ok (.invokevirtual 38, 3) := by decide +kernel
theorem dX8_laySetting_38 : decode cX8_laySetting 38 = .ok (.return_, 1) := by decide +kernel
theorem dX8_eyeSees_0 : decode cX8_eyeSees 0 = .ok (.aload_n 0, 1) := by decide +kernel
theorem dX8_eyeSees_1 : decode cX8_eyeSees 1 = .ok (.getfield 22, 3) := by decide +kernel
theorem dX8_eyeSees_4 : decode cX8_eyeSees 4 = .ok (.ldc2_w 54, 3) := by decide +kernel
theorem dX8_eyeSees_7 : decode cX8_eyeSees 7 = .ok (.aload_n 0, 1) := by decide +kernel
theorem dX8_eyeSees_8 : decode cX8_eyeSees 8 = .ok (.getfield 9, 3) := by decide +kernel
theorem dX8_eyeSees_11 : decode cX8_eyeSees 11 = .ok (.getfield 56, 3) := by decide +kernel
theorem dX8_eyeSees_14 : decode cX8_eyeSees 14 = .ok (.iload_n 1, 1) := by decide +kernel
theorem dX8_eyeSees_15 : decode cX8_eyeSees 15 = .ok (.iaload, 1) := by decide +kernel
theorem dX8_eyeSees_16 : decode cX8_eyeSees 16 = .ok (.i2l, 1) := by decide +kernel
theorem dX8_eyeSees_17 : decode cX8_eyeSees 17 = .ok (.lmul, 1) := by decide +kernel
theorem dX8_eyeSees_18 : decode cX8_eyeSees 18 = .ok (.ldc2_w 54, 3) := by decide +kernel
theorem dX8_eyeSees_21 : decode cX8_eyeSees 21 = .ok (.aload_n 0, 1) := by decide +kernel
theorem dX8_eyeSees_22 : decode cX8_eyeSees 22 = .ok (.getfield 9, 3) := by decide +kernel
theorem dX8_eyeSees_25 : decode cX8_eyeSees 25 = .ok (.getfield 60, 3) := by decide +kernel
theorem dX8_eyeSees_28 : decode cX8_eyeSees 28 = .ok (.iload_n 1, 1) := by decide +kernel
theorem dX8_eyeSees_29 : decode cX8_eyeSees 29 = .ok (.iaload, 1) := by decide +kernel
theorem dX8_eyeSees_30 : decode cX8_eyeSees 30 = .ok (.i2l, 1) := by decide +kernel
theorem dX8_eyeSees_31 : decode cX8_eyeSees 31 = .ok (.lmul, 1) := by decide +kernel
theorem dX8_eyeSees_32 : decode cX8_eyeSees 32 = .ok (.lload_n 2, 1) := by decide +kernel
theorem dX8_eyeSees_33 : decode cX8_eyeSees 33 = .ok (.lload 4, 2) := by decide +kernel
theorem dX8_eyeSees_35 : decode cX8_eyeSees 35 = .ok (.invokevirtual 63, 3) := by decide +kernel
theorem dX8_eyeSees_38 : decode cX8_eyeSees 38 = .ok (.ireturn, 1) := by decide +kernel
theorem dX8_wallShows_0 : decode cX8_wallShows 0 = .ok (.aload_n 0, 1) := by decide +kernel
theorem dX8_wallShows_1 : decode cX8_wallShows 1 = .ok (.getfield 22, 3) := by decide +kernel
theorem dX8_wallShows_4 : decode cX8_wallShows 4 = .ok (.getfield 67, 3) := by decide +kernel
theorem dX8_wallShows_7 : decode cX8_wallShows 7 = .ok (.iload_n 1, 1) := by decide +kernel
theorem dX8_wallShows_8 : decode cX8_wallShows 8 = .ok (.aaload, 1) := by decide +kernel
theorem dX8_wallShows_9 : decode cX8_wallShows 9 = .ok (.astore_n 3, 1) := by decide +kernel
theorem dX8_wallShows_10 : decode cX8_wallShows 10 = .ok (.aload_n 0, 1) := by decide +kernel
theorem dX8_wallShows_11 : decode cX8_wallShows 11 = .ok (.iload_n 2, 1) := by decide +kernel
theorem dX8_wallShows_12 : decode cX8_wallShows 12 = .ok (.aload_n 3, 1) := by decide +kernel
theorem dX8_wallShows_13 : decode cX8_wallShows 13 = .ok (.iconst 0, 1) := by decide +kernel
theorem dX8_wallShows_14 : decode cX8_wallShows 14 = .ok (.laload, 1) := by decide +kernel
theorem dX8_wallShows_15 : decode cX8_wallShows 15 = .ok (.aload_n 3, 1) := by decide +kernel
theorem dX8_wallShows_16 : decode cX8_wallShows 16 = .ok (.iconst 1, 1) := by decide +kernel
theorem dX8_wallShows_17 : decode cX8_wallShows 17 = .ok (.laload, 1) := by decide +kernel
theorem dX8_wallShows_18 : decode cX8_wallShows 18 = .ok (.invokevirtual 71, 3) := by decide +kernel
theorem dX8_wallShows_21 : decode cX8_wallShows 21 = .ok (.ifCond .ne 47, 3) := by decide +kernel
theorem dX8_wallShows_24 : decode cX8_wallShows 24 = .ok (.aload_n 0, 1) := by decide +kernel
theorem dX8_wallShows_25 : decode cX8_wallShows 25 = .ok (.iload_n 2, 1) := by decide +kernel
theorem dX8_wallShows_26 : decode cX8_wallShows 26 = .ok (.aload_n 3, 1) := by decide +kernel
theorem dX8_wallShows_27 : decode cX8_wallShows 27 = .ok (.iconst 2, 1) := by decide +kernel
theorem dX8_wallShows_28 : decode cX8_wallShows 28 = .ok (.laload, 1) := by decide +kernel
theorem dX8_wallShows_29 : decode cX8_wallShows 29 = .ok (.aload_n 3, 1) := by decide +kernel
theorem dX8_wallShows_30 : decode cX8_wallShows 30 = .ok (.iconst 3, 1) := by decide +kernel
theorem dX8_wallShows_31 : decode cX8_wallShows 31 = .ok (.laload, 1) := by decide +kernel
theorem dX8_wallShows_32 : decode cX8_wallShows 32 = .ok (.invokevirtual 71, 3) := by decide +kernel
theorem dX8_wallShows_35 : decode cX8_wallShows 35 = .ok (.ifCond .ne 33, 3) := by decide +kernel
theorem dX8_wallShows_38 : decode cX8_wallShows 38 = .ok (.aload_n 0, 1) := by decide +kernel
theorem dX8_wallShows_39 : decode cX8_wallShows 39 = .ok (.iload_n 2, 1) := by decide +kernel
theorem dX8_wallShows_40 : decode cX8_wallShows 40 = .ok (.aload_n 3, 1) := by decide +kernel
theorem dX8_wallShows_41 : decode cX8_wallShows 41 = .ok (.iconst 0, 1) := by decide +kernel
theorem dX8_wallShows_42 : decode cX8_wallShows 42 = .ok (.laload, 1) := by decide +kernel
theorem dX8_wallShows_43 : decode cX8_wallShows 43 = .ok (.aload_n 3, 1) := by decide +kernel
theorem dX8_wallShows_44 : decode cX8_wallShows 44 = .ok (.iconst 2, 1) := by decide +kernel
theorem dX8_wallShows_45 : decode cX8_wallShows 45 = .ok (.laload, 1) := by decide +kernel
theorem dX8_wallShows_46 : decode cX8_wallShows 46 = .ok (.ladd, 1) := by decide +kernel
theorem dX8_wallShows_47 : decode cX8_wallShows 47 = .ok (.ldc2_w 54, 3) := by decide +kernel
theorem dX8_wallShows_50 : decode cX8_wallShows 50 = .ok (.ldiv, 1) := by decide +kernel
theorem dX8_wallShows_51 : decode cX8_wallShows 51 = .ok (.aload_n 3, 1) := by decide +kernel
theorem dX8_wallShows_52 : decode cX8_wallShows 52 = .ok (.iconst 1, 1) := by decide +kernel
theorem dX8_wallShows_53 : decode cX8_wallShows 53 = .ok (.laload, 1) := by decide +kernel
theorem dX8_wallShows_54 : decode cX8_wallShows 54 = .ok (.aload_n 3, 1) := by decide +kernel
theorem dX8_wallShows_55 : decode cX8_wallShows 55 = .ok (.iconst 3, 1) := by decide +kernel
theorem dX8_wallShows_56 : decode cX8_wallShows 56 = .ok (.laload, 1) := by decide +kernel
theorem dX8_wallShows_57 : decode cX8_wallShows 57 = .ok (.ladd, 1) := by decide +kernel
theorem dX8_wallShows_58 : decode cX8_wallShows 58 = .ok (.ldc2_w 54, 3) := by decide +kernel
theorem dX8_wallShows_61 : decode cX8_wallShows 61 = .ok (.ldiv, 1) := by decide +kernel
theorem dX8_wallShows_62 : decode cX8_wallShows 62 = .ok (.invokevirtual 71, 3) := by decide +kernel
theorem dX8_wallShows_65 : decode cX8_wallShows 65 = .ok (.ifCond .eq 7, 3) := by decide +kernel
theorem dX8_wallShows_68 : decode cX8_wallShows 68 = .ok (.iconst 1, 1) := by decide +kernel
theorem dX8_wallShows_69 : decode cX8_wallShows 69 = .ok (.goto 4, 3) := by decide +kernel
theorem dX8_wallShows_72 : decode cX8_wallShows 72 = .ok (.iconst 0, 1) := by decide +kernel
theorem dX8_wallShows_73 : decode cX8_wallShows 73 = .ok (.ireturn, 1) := by decide +kernel
theorem dX8_wallShowsToSome_0 : decode cX8_wallShowsToSome 0 = .ok (.iconst 0, 1) := by decide +kernel
theorem dX8_wallShowsToSome_1 : decode cX8_wallShowsToSome 1 = .ok (.istore_n 2, 1) := by decide +kernel
theorem dX8_wallShowsToSome_2 : decode cX8_wallShowsToSome 2 = .ok (.iload_n 2, 1) := by decide +kernel
theorem dX8_wallShowsToSome_3 : decode cX8_wallShowsToSome 3 = .ok (.bipush 8, 2) := by decide +kernel
theorem dX8_wallShowsToSome_5 : decode cX8_wallShowsToSome 5 = .ok (.if_icmp .ge 32, 3) := by decide +kernel
theorem dX8_wallShowsToSome_8 : decode cX8_wallShowsToSome 8 = .ok (.aload_n 0, 1) := by decide +kernel
theorem dX8_wallShowsToSome_9 : decode cX8_wallShowsToSome 9 = .ok (.getfield 9, 3) := by decide +kernel
theorem dX8_wallShowsToSome_12 : decode cX8_wallShowsToSome 12 = .ok (.getfield 75, 3) := by decide +kernel
theorem dX8_wallShowsToSome_15 : decode cX8_wallShowsToSome 15 = .ok (.iload_n 2, 1) := by decide +kernel
theorem dX8_wallShowsToSome_16 : decode cX8_wallShowsToSome 16 = .ok (.baload, 1) := by decide +kernel
theorem dX8_wallShowsToSome_17 : decode cX8_wallShowsToSome 17 = .ok (.ifCond .eq 14, 3) := by decide +kernel
theorem dX8_wallShowsToSome_20 : decode cX8_wallShowsToSome 20 = .ok (.aload_n 0, 1) := by decide +kernel
theorem dX8_wallShowsToSome_21 : decode cX8_wallShowsToSome 21 = .ok (.iload_n 1, 1) := by decide +kernel
theorem dX8_wallShowsToSome_22 : decode cX8_wallShowsToSome 22 = .ok (.iload_n 2, 1) := by decide +kernel
theorem dX8_wallShowsToSome_23 : decode cX8_wallShowsToSome 23 = .ok (.invokevirtual 79, 3) := by decide +kernel
theorem dX8_wallShowsToSome_26 : decode cX8_wallShowsToSome 26 = .ok (.ifCond .eq 5, 3) := by decide +kernel
theorem dX8_wallShowsToSome_29 : decode cX8_wallShowsToSome 29 = .ok (.iconst 1, 1) := by decide +kernel
theorem dX8_wallShowsToSome_30 : decode cX8_wallShowsToSome 30 = .ok (.ireturn, 1) := by decide +kernel
theorem dX8_wallShowsToSome_31 : decode cX8_wallShowsToSome 31 = .ok (.iinc 2 1, 3) := by decide +kernel
theorem dX8_wallShowsToSome_34 : decode cX8_wallShowsToSome 34 = .ok (.goto (-32), 3) := by decide +kernel
theorem dX8_wallShowsToSome_37 : decode cX8_wallShowsToSome 37 = .ok (.iconst 0, 1) := by decide +kernel
theorem dX8_wallShowsToSome_38 : decode cX8_wallShowsToSome 38 = .ok (.ireturn, 1) := by decide +kernel
theorem dX8_standAt_0 : decode cX8_standAt 0 = .ok (.aload_n 0, 1) := by decide +kernel
theorem dX8_standAt_1 : decode cX8_standAt 1 = .ok (.getfield 15, 3) := by decide +kernel
theorem dX8_standAt_4 : decode cX8_standAt 4 = .ok (.getfield 83, 3) := by decide +kernel
theorem dX8_standAt_7 : decode cX8_standAt 7 = .ok (.iload_n 1, 1) := by decide +kernel
theorem dX8_standAt_8 : decode cX8_standAt 8 = .ok (.iaload, 1) := by decide +kernel
theorem dX8_standAt_9 : decode cX8_standAt 9 = .ok (.istore_n 2, 1) := by decide +kernel
theorem dX8_standAt_10 : decode cX8_standAt 10 = .ok (.aload_n 0, 1) := by decide +kernel
theorem dX8_standAt_11 : decode cX8_standAt 11 = .ok (.aload_n 0, 1) := by decide +kernel
theorem dX8_standAt_12 : decode cX8_standAt 12 = .ok (.getfield 9, 3) := by decide +kernel
theorem dX8_standAt_15 : decode cX8_standAt 15 = .ok (.getfield 88, 3) := by decide +kernel
theorem dX8_standAt_18 : decode cX8_standAt 18 = .ok (.aload_n 0, 1) := by decide +kernel
theorem dX8_standAt_19 : decode cX8_standAt 19 = .ok (.getfield 9, 3) := by decide +kernel
theorem dX8_standAt_22 : decode cX8_standAt 22 = .ok (.getfield 91, 3) := by decide +kernel
theorem dX8_standAt_25 : decode cX8_standAt 25 = .ok (.aload_n 0, 1) := by decide +kernel
theorem dX8_standAt_26 : decode cX8_standAt 26 = .ok (.getfield 9, 3) := by decide +kernel
theorem dX8_standAt_29 : decode cX8_standAt 29 = .ok (.getfield 88, 3) := by decide +kernel
theorem dX8_standAt_32 : decode cX8_standAt 32 = .ok (.isub, 1) := by decide +kernel
theorem dX8_standAt_33 : decode cX8_standAt 33 = .ok (.iload_n 2, 1) := by decide +kernel
theorem dX8_standAt_34 : decode cX8_standAt 34 = .ok (.imul, 1) := by decide +kernel
theorem dX8_standAt_35 : decode cX8_standAt 35 = .ok (.sipush 1000, 3) := by decide +kernel
theorem dX8_standAt_38 : decode cX8_standAt 38 = .ok (.invokestatic 94, 3) := by decide +kernel
theorem dX8_standAt_41 : decode cX8_standAt 41 = .ok (.iadd, 1) := by decide +kernel
theorem dX8_standAt_42 : decode cX8_standAt 42 = .ok (.putfield 100, 3) := by decide +kernel
theorem dX8_standAt_45 : decode cX8_standAt 45 = .ok (.aload_n 0, 1) := by decide +kernel
theorem dX8_standAt_46 : decode cX8_standAt 46 = .ok (.aload_n 0, 1) := by decide +kernel
theorem dX8_standAt_47 : decode cX8_standAt 47 = .ok (.getfield 9, 3) := by decide +kernel
theorem dX8_standAt_50 : decode cX8_standAt 50 = .ok (.getfield 103, 3) := by decide +kernel
theorem dX8_standAt_53 : decode cX8_standAt 53 = .ok (.aload_n 0, 1) := by decide +kernel
theorem dX8_standAt_54 : decode cX8_standAt 54 = .ok (.getfield 22, 3) := by decide +kernel
theorem dX8_standAt_57 : decode cX8_standAt 57 = .ok (.getfield 106, 3) := by decide +kernel
theorem dX8_standAt_60 : decode cX8_standAt 60 = .ok (.isub, 1) := by decide +kernel
theorem dX8_standAt_61 : decode cX8_standAt 61 = .ok (.aload_n 0, 1) := by decide +kernel
theorem dX8_standAt_62 : decode cX8_standAt 62 = .ok (.getfield 9, 3) := by decide +kernel
theorem dX8_standAt_65 : decode cX8_standAt 65 = .ok (.getfield 107, 3) := by decide +kernel
theorem dX8_standAt_68 : decode cX8_standAt 68 = .ok (.aload_n 0, 1) := by decide +kernel
theorem dX8_standAt_69 : decode cX8_standAt 69 = .ok (.getfield 9, 3) := by decide +kernel
theorem dX8_standAt_72 : decode cX8_standAt 72 = .ok (.getfield 103, 3) := by decide +kernel
theorem dX8_standAt_75 : decode cX8_standAt 75 = .ok (.isub, 1) := by decide +kernel
theorem dX8_standAt_76 : decode cX8_standAt 76 = .ok (.iload_n 2, 1) := by decide +kernel
theorem dX8_standAt_77 : decode cX8_standAt 77 = .ok (.imul, 1) := by decide +kernel
theorem dX8_standAt_78 : decode cX8_standAt 78 = .ok (.sipush 1000, 3) := by decide +kernel
theorem dX8_standAt_81 : decode cX8_standAt 81 = .ok (.invokestatic 94, 3) := by decide +kernel
theorem dX8_standAt_84 : decode cX8_standAt 84 = .ok (.iadd, 1) := by decide +kernel
theorem dX8_standAt_85 : decode cX8_standAt 85 = .ok (.putfield 110, 3) := by decide +kernel
theorem dX8_standAt_88 : decode cX8_standAt 88 = .ok (.aload_n 0, 1) := by decide +kernel
theorem dX8_standAt_89 : decode cX8_standAt 89 = .ok (.aload_n 0, 1) := by decide +kernel
theorem dX8_standAt_90 : decode cX8_standAt 90 = .ok (.getfield 110, 3) := by decide +kernel
theorem dX8_standAt_93 : decode cX8_standAt 93 = .ok (.aload_n 0, 1) := by decide +kernel
theorem dX8_standAt_94 : decode cX8_standAt 94 = .ok (.getfield 15, 3) := by decide +kernel
theorem dX8_standAt_97 : decode cX8_standAt 97 = .ok (.getfield 113, 3) := by decide +kernel
theorem dX8_standAt_100 : decode cX8_standAt 100 = .ok (.iload_n 1, 1) := by decide +kernel
theorem dX8_standAt_101 : decode cX8_standAt 101 = .ok (.iaload, 1) := by decide +kernel
theorem dX8_standAt_102 : decode cX8_standAt 102 = .ok (.iadd, 1) := by decide +kernel
theorem dX8_standAt_103 : decode cX8_standAt 103 = .ok (.putfield 116, 3) := by decide +kernel
theorem dX8_standAt_106 : decode cX8_standAt 106 = .ok (.return_, 1) := by decide +kernel
theorem dX8_isHeld_0 : decode cX8_isHeld 0 = .ok (.aload_n 0, 1) := by decide +kernel
theorem dX8_isHeld_1 : decode cX8_isHeld 1 = .ok (.getfield 22, 3) := by decide +kernel
theorem dX8_isHeld_4 : decode cX8_isHeld 4 = .ok (.aload_n 0, 1) := by decide +kernel
theorem dX8_isHeld_5 : decode cX8_isHeld 5 = .ok (.getfield 100, 3) := by decide +kernel
theorem dX8_isHeld_8 : decode cX8_isHeld 8 = .ok (.aload_n 0, 1) := by decide +kernel
theorem dX8_isHeld_9 : decode cX8_isHeld 9 = .ok (.getfield 110, 3) := by decide +kernel
theorem dX8_isHeld_12 : decode cX8_isHeld 12 = .ok (.invokevirtual 119, 3) := by decide +kernel
theorem dX8_isHeld_15 : decode cX8_isHeld 15 = .ok (.aload_n 0, 1) := by decide +kernel
theorem dX8_isHeld_16 : decode cX8_isHeld 16 = .ok (.getfield 22, 3) := by decide +kernel
theorem dX8_isHeld_19 : decode cX8_isHeld 19 = .ok (.getfield 123, 3) := by decide +kernel
theorem dX8_isHeld_22 : decode cX8_isHeld 22 = .ok (.aload_n 0, 1) := by decide +kernel
theorem dX8_isHeld_23 : decode cX8_isHeld 23 = .ok (.getfield 9, 3) := by decide +kernel
theorem dX8_isHeld_26 : decode cX8_isHeld 26 = .ok (.getfield 127, 3) := by decide +kernel
theorem dX8_isHeld_29 : decode cX8_isHeld 29 = .ok (.i2l, 1) := by decide +kernel
theorem dX8_isHeld_30 : decode cX8_isHeld 30 = .ok (.lmul, 1) := by decide +kernel
theorem dX8_isHeld_31 : decode cX8_isHeld 31 = .ok (.lsub, 1) := by decide +kernel
theorem dX8_isHeld_32 : decode cX8_isHeld 32 = .ok (.lstore_n 1, 1) := by decide +kernel
theorem dX8_isHeld_33 : decode cX8_isHeld 33 = .ok (.lload_n 1, 1) := by decide +kernel
theorem dX8_isHeld_34 : decode cX8_isHeld 34 = .ok (.invokestatic 130, 3) := by decide +kernel
theorem dX8_isHeld_37 : decode cX8_isHeld 37 = .ok (.aload_n 0, 1) := by decide +kernel
theorem dX8_isHeld_38 : decode cX8_isHeld 38 = .ok (.getfield 22, 3) := by decide +kernel
theorem dX8_isHeld_41 : decode cX8_isHeld 41 = .ok (.getfield 123, 3) := by decide +kernel
theorem dX8_isHeld_44 : decode cX8_isHeld 44 = .ok (.aload_n 0, 1) := by decide +kernel
theorem dX8_isHeld_45 : decode cX8_isHeld 45 = .ok (.getfield 9, 3) := by decide +kernel
theorem dX8_isHeld_48 : decode cX8_isHeld 48 = .ok (.getfield 134, 3) := by decide +kernel
theorem dX8_isHeld_51 : decode cX8_isHeld 51 = .ok (.i2l, 1) := by decide +kernel
theorem dX8_isHeld_52 : decode cX8_isHeld 52 = .ok (.lmul, 1) := by decide +kernel
theorem dX8_isHeld_53 : decode cX8_isHeld 53 = .ok (.lcmp, 1) := by decide +kernel
theorem dX8_isHeld_54 : decode cX8_isHeld 54 = .ok (.ifCond .gt 7, 3) := by decide +kernel
theorem dX8_isHeld_57 : decode cX8_isHeld 57 = .ok (.iconst 1, 1) := by decide +kernel
theorem dX8_isHeld_58 : decode cX8_isHeld 58 = .ok (.goto 4, 3) := by decide +kernel
theorem dX8_isHeld_61 : decode cX8_isHeld 61 = .ok (.iconst 0, 1) := by decide +kernel
theorem dX8_isHeld_62 : decode cX8_isHeld 62 = .ok (.ireturn, 1) := by decide +kernel
theorem dX8_clashes_0 : decode cX8_clashes 0 = .ok (.aload_n 0, 1) := by decide +kernel
theorem dX8_clashes_1 : decode cX8_clashes 1 = .ok (.getfield 22, 3) := by decide +kernel
theorem dX8_clashes_4 : decode cX8_clashes 4 = .ok (.aload_n 0, 1) := by decide +kernel
theorem dX8_clashes_5 : decode cX8_clashes 5 = .ok (.getfield 100, 3) := by decide +kernel
theorem dX8_clashes_8 : decode cX8_clashes 8 = .ok (.aload_n 0, 1) := by decide +kernel
theorem dX8_clashes_9 : decode cX8_clashes 9 = .ok (.getfield 116, 3) := by decide +kernel
theorem dX8_clashes_12 : decode cX8_clashes 12 = .ok (.invokevirtual 137, 3) := by decide +kernel
theorem dX8_clashes_15 : decode cX8_clashes 15 = .ok (.lstore_n 1, 1) := by decide +kernel
theorem dX8_clashes_16 : decode cX8_clashes 16 = .ok (.aload_n 0, 1) := by decide +kernel
theorem dX8_clashes_17 : decode cX8_clashes 17 = .ok (.getfield 22, 3) := by decide +kernel
theorem dX8_clashes_20 : decode cX8_clashes 20 = .ok (.aload_n 0, 1) := by decide +kernel
theorem dX8_clashes_21 : decode cX8_clashes 21 = .ok (.getfield 100, 3) := by decide +kernel
theorem dX8_clashes_24 : decode cX8_clashes 24 = .ok (.aload_n 0, 1) := by decide +kernel
theorem dX8_clashes_25 : decode cX8_clashes 25 = .ok (.getfield 116, 3) := by decide +kernel
theorem dX8_clashes_28 : decode cX8_clashes 28 = .ok (.invokevirtual 119, 3) := by decide +kernel
theorem dX8_clashes_31 : decode cX8_clashes 31 = .ok (.lstore_n 3, 1) := by decide +kernel
theorem dX8_clashes_32 : decode cX8_clashes 32 = .ok (.iconst 0, 1) := by decide +kernel
theorem dX8_clashes_33 : decode cX8_clashes 33 = .ok (.istore 5, 2) := by decide +kernel
theorem dX8_clashes_35 : decode cX8_clashes 35 = .ok (.iconst 0, 1) := by decide +kernel
theorem dX8_clashes_36 : decode cX8_clashes 36 = .ok (.istore 6, 2) := by decide +kernel
theorem dX8_clashes_38 : decode cX8_clashes 38 = .ok (.iload 6, 2) := by decide +kernel
theorem dX8_clashes_40 : decode cX8_clashes 40 = .ok (.bipush 8, 2) := by decide +kernel
theorem dX8_clashes_42 : decode cX8_clashes 42 = .ok (.if_icmp .ge 50, 3) := by decide +kernel
theorem dX8_clashes_45 : decode cX8_clashes 45 = .ok (.aload_n 0, 1) := by decide +kernel
theorem dX8_clashes_46 : decode cX8_clashes 46 = .ok (.getfield 9, 3) := by decide +kernel
theorem dX8_clashes_49 : decode cX8_clashes 49 = .ok (.getfield 140, 3) := by decide +kernel
theorem dX8_clashes_52 : decode cX8_clashes 52 = .ok (.iload 6, 2) := by decide +kernel
theorem dX8_clashes_54 : decode cX8_clashes 54 = .ok (.baload, 1) := by decide +kernel
theorem dX8_clashes_55 : decode cX8_clashes 55 = .ok (.ifCond .eq 31, 3) := by decide +kernel
theorem dX8_clashes_58 : decode cX8_clashes 58 = .ok (.aload_n 0, 1) := by decide +kernel
theorem dX8_clashes_59 : decode cX8_clashes 59 = .ok (.aload_n 0, 1) := by decide +kernel
theorem dX8_clashes_60 : decode cX8_clashes 60 = .ok (.getfield 9, 3) := by decide +kernel
theorem dX8_clashes_63 : decode cX8_clashes 63 = .ok (.getfield 143, 3) := by decide +kernel
theorem dX8_clashes_66 : decode cX8_clashes 66 = .ok (.iload 6, 2) := by decide +kernel
theorem dX8_clashes_68 : decode cX8_clashes 68 = .ok (.aaload, 1) := by decide +kernel
theorem dX8_clashes_69 : decode cX8_clashes 69 = .ok (.lload_n 1, 1) := by decide +kernel
theorem dX8_clashes_70 : decode cX8_clashes 70 = .ok (.lload_n 3, 1) := by decide +kernel
theorem dX8_clashes_71 : decode cX8_clashes 71 = .ok (.invokevirtual 147, 3) := by decide +kernel
theorem dX8_clashes_74 : decode cX8_clashes 74 = .ok (.ifCond .eq 12, 3) := by decide +kernel
theorem dX8_clashes_77 : decode cX8_clashes 77 = .ok (.iload 5, 2) := by decide +kernel
theorem dX8_clashes_79 : decode cX8_clashes 79 = .ok (.iconst 1, 1) := by decide +kernel
theorem dX8_clashes_80 : decode cX8_clashes 80 = .ok (.iload 6, 2) := by decide +kernel
theorem dX8_clashes_82 : decode cX8_clashes 82 = .ok (.ishl, 1) := by decide +kernel
theorem dX8_clashes_83 : decode cX8_clashes 83 = .ok (.ior, 1) := by decide +kernel
theorem dX8_clashes_84 : decode cX8_clashes 84 = .ok (.istore 5, 2) := by decide +kernel
theorem dX8_clashes_86 : decode cX8_clashes 86 = .ok (.iinc 6 1, 3) := by decide +kernel
theorem dX8_clashes_89 : decode cX8_clashes 89 = .ok (.goto (-51), 3) := by decide +kernel
theorem dX8_clashes_92 : decode cX8_clashes 92 = .ok (.iload 5, 2) := by decide +kernel
theorem dX8_clashes_94 : decode cX8_clashes 94 = .ok (.ireturn, 1) := by decide +kernel
theorem dX8_isInside_0 : decode cX8_isInside 0 = .ok (.aload_n 0, 1) := by decide +kernel
theorem dX8_isInside_1 : decode cX8_isInside 1 = .ok (.getfield 22, 3) := by decide +kernel
theorem dX8_isInside_4 : decode cX8_isInside 4 = .ok (.getfield 123, 3) := by decide +kernel
theorem dX8_isInside_7 : decode cX8_isInside 7 = .ok (.lstore 6, 2) := by decide +kernel
theorem dX8_isInside_9 : decode cX8_isInside 9 = .ok (.lload_n 2, 1) := by decide +kernel
theorem dX8_isInside_10 : decode cX8_isInside 10 = .ok (.lload 6, 2) := by decide +kernel
theorem dX8_isInside_12 : decode cX8_isInside 12 = .ok (.aload_n 1, 1) := by decide +kernel
theorem dX8_isInside_13 : decode cX8_isInside 13 = .ok (.iconst 0, 1) := by decide +kernel
theorem dX8_isInside_14 : decode cX8_isInside 14 = .ok (.iaload, 1) := by decide +kernel
theorem dX8_isInside_15 : decode cX8_isInside 15 = .ok (.i2l, 1) := by decide +kernel
theorem dX8_isInside_16 : decode cX8_isInside 16 = .ok (.lmul, 1) := by decide +kernel
theorem dX8_isInside_17 : decode cX8_isInside 17 = .ok (.lcmp, 1) := by decide +kernel
theorem dX8_isInside_18 : decode cX8_isInside 18 = .ok (.ifCond .le 45, 3) := by decide +kernel
theorem dX8_isInside_21 : decode cX8_isInside 21 = .ok (.lload_n 2, 1) := by decide +kernel
theorem dX8_isInside_22 : decode cX8_isInside 22 = .ok (.lload 6, 2) := by decide +kernel
theorem dX8_isInside_24 : decode cX8_isInside 24 = .ok (.aload_n 1, 1) := by decide +kernel
theorem dX8_isInside_25 : decode cX8_isInside 25 = .ok (.iconst 1, 1) := by decide +kernel
theorem dX8_isInside_26 : decode cX8_isInside 26 = .ok (.iaload, 1) := by decide +kernel
theorem dX8_isInside_27 : decode cX8_isInside 27 = .ok (.i2l, 1) := by decide +kernel
theorem dX8_isInside_28 : decode cX8_isInside 28 = .ok (.lmul, 1) := by decide +kernel
theorem dX8_isInside_29 : decode cX8_isInside 29 = .ok (.lcmp, 1) := by decide +kernel
theorem dX8_isInside_30 : decode cX8_isInside 30 = .ok (.ifCond .ge 33, 3) := by decide +kernel
theorem dX8_isInside_33 : decode cX8_isInside 33 = .ok (.lload 4, 2) := by decide +kernel
theorem dX8_isInside_35 : decode cX8_isInside 35 = .ok (.lload 6, 2) := by decide +kernel
theorem dX8_isInside_37 : decode cX8_isInside 37 = .ok (.aload_n 1, 1) := by decide +kernel
theorem dX8_isInside_38 : decode cX8_isInside 38 = .ok (.iconst 2, 1) := by decide +kernel
theorem dX8_isInside_39 : decode cX8_isInside 39 = .ok (.iaload, 1) := by decide +kernel
theorem dX8_isInside_40 : decode cX8_isInside 40 = .ok (.i2l, 1) := by decide +kernel
theorem dX8_isInside_41 : decode cX8_isInside 41 = .ok (.lmul, 1) := by decide +kernel
theorem dX8_isInside_42 : decode cX8_isInside 42 = .ok (.lcmp, 1) := by decide +kernel
theorem dX8_isInside_43 : decode cX8_isInside 43 = .ok (.ifCond .le 20, 3) := by decide +kernel
theorem dX8_isInside_46 : decode cX8_isInside 46 = .ok (.lload 4, 2) := by decide +kernel
theorem dX8_isInside_48 : decode cX8_isInside 48 = .ok (.lload 6, 2) := by decide +kernel
theorem dX8_isInside_50 : decode cX8_isInside 50 = .ok (.aload_n 1, 1) := by decide +kernel
theorem dX8_isInside_51 : decode cX8_isInside 51 = .ok (.iconst 3, 1) := by decide +kernel
theorem dX8_isInside_52 : decode cX8_isInside 52 = .ok (.iaload, 1) := by decide +kernel
theorem dX8_isInside_53 : decode cX8_isInside 53 = .ok (.i2l, 1) := by decide +kernel
theorem dX8_isInside_54 : decode cX8_isInside 54 = .ok (.lmul, 1) := by decide +kernel
theorem dX8_isInside_55 : decode cX8_isInside 55 = .ok (.lcmp, 1) := by decide +kernel
theorem dX8_isInside_56 : decode cX8_isInside 56 = .ok (.ifCond .ge 7, 3) := by decide +kernel
theorem dX8_isInside_59 : decode cX8_isInside 59 = .ok (.iconst 1, 1) := by decide +kernel
theorem dX8_isInside_60 : decode cX8_isInside 60 = .ok (.goto 4, 3) := by decide +kernel
theorem dX8_isInside_63 : decode cX8_isInside 63 = .ok (.iconst 0, 1) := by decide +kernel
theorem dX8_isInside_64 : decode cX8_isInside 64 = .ok (.ireturn, 1) := by decide +kernel
theorem dX8_isGood_0 : decode cX8_isGood 0 = .ok (.aload_n 0, 1) := by decide +kernel
theorem dX8_isGood_1 : decode cX8_isGood 1 = .ok (.iload_n 1, 1) := by decide +kernel
theorem dX8_isGood_2 : decode cX8_isGood 2 = .ok (.invokevirtual 151, 3) := by decide +kernel
theorem dX8_isGood_5 : decode cX8_isGood 5 = .ok (.aload_n 0, 1) := by decide +kernel
theorem dX8_isGood_6 : decode cX8_isGood 6 = .ok (.getfield 15, 3) := by decide +kernel
theorem dX8_isGood_9 : decode cX8_isGood 9 = .ok (.getfield 155, 3) := by decide +kernel
theorem dX8_isGood_12 : decode cX8_isGood 12 = .ok (.iload_n 1, 1) := by decide +kernel
theorem dX8_isGood_13 : decode cX8_isGood 13 = .ok (.baload, 1) := by decide +kernel
theorem dX8_isGood_14 : decode cX8_isGood 14 = .ok (.ifCond .eq 21, 3) := by decide +kernel
theorem dX8_isGood_17 : decode cX8_isGood 17 = .ok (.aload_n 0, 1) := by decide +kernel
theorem dX8_isGood_18 : decode cX8_isGood 18 = .ok (.invokevirtual 158, 3) := by decide +kernel
theorem dX8_isGood_21 : decode cX8_isGood 21 = .ok (.ifCond .eq 14, 3) := by decide +kernel
theorem dX8_isGood_24 : decode cX8_isGood 24 = .ok (.aload_n 0, 1) := by decide +kernel
theorem dX8_isGood_25 : decode cX8_isGood 25 = .ok (.invokevirtual 162, 3) := by decide +kernel
theorem dX8_isGood_28 : decode cX8_isGood 28 = .ok (.ifCond .ne 7, 3) := by decide +kernel
theorem dX8_isGood_31 : decode cX8_isGood 31 = .ok (.iconst 1, 1) := by decide +kernel
theorem dX8_isGood_32 : decode cX8_isGood 32 = .ok (.goto 4, 3) := by decide +kernel
theorem dX8_isGood_35 : decode cX8_isGood 35 = .ok (.iconst 0, 1) := by decide +kernel
theorem dX8_isGood_36 : decode cX8_isGood 36 = .ok (.ireturn, 1) := by decide +kernel
theorem dX8_seesGhost_0 : decode cX8_seesGhost 0 = .ok (.ldc2_w 54, 3) := by decide +kernel
theorem dX8_seesGhost_3 : decode cX8_seesGhost 3 = .ok (.aload_n 0, 1) := by decide +kernel
theorem dX8_seesGhost_4 : decode cX8_seesGhost 4 = .ok (.getfield 9, 3) := by decide +kernel
theorem dX8_seesGhost_7 : decode cX8_seesGhost 7 = .ok (.getfield 56, 3) := by decide +kernel
theorem dX8_seesGhost_10 : decode cX8_seesGhost 10 = .ok (.iload_n 1, 1) := by decide +kernel
theorem dX8_seesGhost_11 : decode cX8_seesGhost 11 = .ok (.iaload, 1) := by decide +kernel
theorem dX8_seesGhost_12 : decode cX8_seesGhost 12 = .ok (.i2l, 1) := by decide +kernel
theorem dX8_seesGhost_13 : decode cX8_seesGhost 13 = .ok (.lmul, 1) := by decide +kernel
theorem dX8_seesGhost_14 : decode cX8_seesGhost 14 = .ok (.lstore_n 2, 1) := by decide +kernel
theorem dX8_seesGhost_15 : decode cX8_seesGhost 15 = .ok (.ldc2_w 54, 3) := by decide +kernel
theorem dX8_seesGhost_18 : decode cX8_seesGhost 18 = .ok (.aload_n 0, 1) := by decide +kernel
theorem dX8_seesGhost_19 : decode cX8_seesGhost 19 = .ok (.getfield 9, 3) := by decide +kernel
theorem dX8_seesGhost_22 : decode cX8_seesGhost 22 = .ok (.getfield 60, 3) := by decide +kernel
theorem dX8_seesGhost_25 : decode cX8_seesGhost 25 = .ok (.iload_n 1, 1) := by decide +kernel
theorem dX8_seesGhost_26 : decode cX8_seesGhost 26 = .ok (.iaload, 1) := by decide +kernel
theorem dX8_seesGhost_27 : decode cX8_seesGhost 27 = .ok (.i2l, 1) := by decide +kernel
theorem dX8_seesGhost_28 : decode cX8_seesGhost 28 = .ok (.lmul, 1) := by decide +kernel
theorem dX8_seesGhost_29 : decode cX8_seesGhost 29 = .ok (.lstore 4, 2) := by decide +kernel
theorem dX8_seesGhost_31 : decode cX8_seesGhost 31 = .ok (.aload_n 0, 1) := by decide +kernel
theorem dX8_seesGhost_32 : decode cX8_seesGhost 32 = .ok (.getfield 22, 3) := by decide +kernel
theorem dX8_seesGhost_35 : decode cX8_seesGhost 35 = .ok (.lload_n 2, 1) := by decide +kernel
theorem dX8_seesGhost_36 : decode cX8_seesGhost 36 = .ok (.lload 4, 2) := by decide +kernel
theorem dX8_seesGhost_38 : decode cX8_seesGhost 38 = .ok (.ldc2_w 54, 3) := by decide +kernel
theorem dX8_seesGhost_41 : decode cX8_seesGhost 41 = .ok (.aload_n 0, 1) := by decide +kernel
theorem dX8_seesGhost_42 : decode cX8_seesGhost 42 = .ok (.getfield 100, 3) := by decide +kernel
theorem dX8_seesGhost_45 : decode cX8_seesGhost 45 = .ok (.i2l, 1) := by decide +kernel
theorem dX8_seesGhost_46 : decode cX8_seesGhost 46 = .ok (.lmul, 1) := by decide +kernel
theorem dX8_seesGhost_47 : decode cX8_seesGhost 47 = .ok (.ldc2_w 54, 3) := by decide +kernel
theorem dX8_seesGhost_50 : decode cX8_seesGhost 50 = .ok (.aload_n 0, 1) := by decide +kernel
theorem dX8_seesGhost_51 : decode cX8_seesGhost 51 = .ok (.getfield 116, 3) := by decide +kernel
theorem dX8_seesGhost_54 : decode cX8_seesGhost 54 = .ok (.i2l, 1) := by decide +kernel
theorem dX8_seesGhost_55 : decode cX8_seesGhost 55 = .ok (.lmul, 1) := by decide +kernel
theorem dX8_seesGhost_56 : decode cX8_seesGhost 56 = .ok (.invokevirtual 63, 3) := by decide +kernel
theorem dX8_seesGhost_59 : decode cX8_seesGhost 59 = .ok (.ifCond .eq 41, 3) := by decide +kernel
theorem dX8_seesGhost_62 : decode cX8_seesGhost 62 = .ok (.aload_n 0, 1) := by decide +kernel
theorem dX8_seesGhost_63 : decode cX8_seesGhost 63 = .ok (.getfield 22, 3) := by decide +kernel
theorem dX8_seesGhost_66 : decode cX8_seesGhost 66 = .ok (.lload_n 2, 1) := by decide +kernel
theorem dX8_seesGhost_67 : decode cX8_seesGhost 67 = .ok (.lload 4, 2) := by decide +kernel
theorem dX8_seesGhost_69 : decode cX8_seesGhost 69 = .ok (.ldc2_w 54, 3) := by decide +kernel
theorem dX8_seesGhost_72 : decode cX8_seesGhost 72 = .ok (.aload_n 0, 1) := by decide +kernel
theorem dX8_seesGhost_73 : decode cX8_seesGhost 73 = .ok (.getfield 100, 3) := by decide +kernel
theorem dX8_seesGhost_76 : decode cX8_seesGhost 76 = .ok (.i2l, 1) := by decide +kernel
theorem dX8_seesGhost_77 : decode cX8_seesGhost 77 = .ok (.lmul, 1) := by decide +kernel
theorem dX8_seesGhost_78 : decode cX8_seesGhost 78 = .ok (.ldc2_w 54, 3) := by decide +kernel
theorem dX8_seesGhost_81 : decode cX8_seesGhost 81 = .ok (.aload_n 0, 1) := by decide +kernel
theorem dX8_seesGhost_82 : decode cX8_seesGhost 82 = .ok (.getfield 116, 3) := by decide +kernel
theorem dX8_seesGhost_85 : decode cX8_seesGhost 85 = .ok (.bipush 8, 2) := by decide +kernel
theorem dX8_seesGhost_87 : decode cX8_seesGhost 87 = .ok (.iadd, 1) := by decide +kernel
theorem dX8_seesGhost_88 : decode cX8_seesGhost 88 = .ok (.i2l, 1) := by decide +kernel
theorem dX8_seesGhost_89 : decode cX8_seesGhost 89 = .ok (.lmul, 1) := by decide +kernel
theorem dX8_seesGhost_90 : decode cX8_seesGhost 90 = .ok (.invokevirtual 63, 3) := by decide +kernel
theorem dX8_seesGhost_93 : decode cX8_seesGhost 93 = .ok (.ifCond .eq 7, 3) := by decide +kernel
theorem dX8_seesGhost_96 : decode cX8_seesGhost 96 = .ok (.iconst 1, 1) := by decide +kernel
theorem dX8_seesGhost_97 : decode cX8_seesGhost 97 = .ok (.goto 4, 3) := by decide +kernel
theorem dX8_seesGhost_100 : decode cX8_seesGhost 100 = .ok (.iconst 0, 1) := by decide +kernel
theorem dX8_seesGhost_101 : decode cX8_seesGhost 101 = .ok (.ireturn, 1) := by decide +kernel
theorem dX8_seesFace_0 : decode cX8_seesFace 0 = .ok (.aload_n 0, 1) := by decide +kernel
theorem dX8_seesFace_1 : decode cX8_seesFace 1 = .ok (.getfield 22, 3) := by decide +kernel
theorem dX8_seesFace_4 : decode cX8_seesFace 4 = .ok (.ldc2_w 54, 3) := by decide +kernel
theorem dX8_seesFace_7 : decode cX8_seesFace 7 = .ok (.aload_n 0, 1) := by decide +kernel
theorem dX8_seesFace_8 : decode cX8_seesFace 8 = .ok (.getfield 9, 3) := by decide +kernel
theorem dX8_seesFace_11 : decode cX8_seesFace 11 = .ok (.getfield 56, 3) := by decide +kernel
theorem dX8_seesFace_14 : decode cX8_seesFace 14 = .ok (.iload_n 1, 1) := by decide +kernel
theorem dX8_seesFace_15 : decode cX8_seesFace 15 = .ok (.iaload, 1) := by decide +kernel
theorem dX8_seesFace_16 : decode cX8_seesFace 16 = .ok (.i2l, 1) := by decide +kernel
theorem dX8_seesFace_17 : decode cX8_seesFace 17 = .ok (.lmul, 1) := by decide +kernel
theorem dX8_seesFace_18 : decode cX8_seesFace 18 = .ok (.ldc2_w 54, 3) := by decide +kernel
theorem dX8_seesFace_21 : decode cX8_seesFace 21 = .ok (.aload_n 0, 1) := by decide +kernel
theorem dX8_seesFace_22 : decode cX8_seesFace 22 = .ok (.getfield 9, 3) := by decide +kernel
theorem dX8_seesFace_25 : decode cX8_seesFace 25 = .ok (.getfield 60, 3) := by decide +kernel
theorem dX8_seesFace_28 : decode cX8_seesFace 28 = .ok (.iload_n 1, 1) := by decide +kernel
theorem dX8_seesFace_29 : decode cX8_seesFace 29 = .ok (.iaload, 1) := by decide +kernel
theorem dX8_seesFace_30 : decode cX8_seesFace 30 = .ok (.i2l, 1) := by decide +kernel
theorem dX8_seesFace_31 : decode cX8_seesFace 31 = .ok (.lmul, 1) := by decide +kernel
theorem dX8_seesFace_32 : decode cX8_seesFace 32 = .ok (.ldc2_w 54, 3) := by decide +kernel
theorem dX8_seesFace_35 : decode cX8_seesFace 35 = .ok (.aload_n 0, 1) := by decide +kernel
theorem dX8_seesFace_36 : decode cX8_seesFace 36 = .ok (.getfield 100, 3) := by decide +kernel
theorem dX8_seesFace_39 : decode cX8_seesFace 39 = .ok (.i2l, 1) := by decide +kernel
theorem dX8_seesFace_40 : decode cX8_seesFace 40 = .ok (.lmul, 1) := by decide +kernel
theorem dX8_seesFace_41 : decode cX8_seesFace 41 = .ok (.ldc2_w 54, 3) := by decide +kernel
theorem dX8_seesFace_44 : decode cX8_seesFace 44 = .ok (.aload_n 0, 1) := by decide +kernel
theorem dX8_seesFace_45 : decode cX8_seesFace 45 = .ok (.getfield 116, 3) := by decide +kernel
theorem dX8_seesFace_48 : decode cX8_seesFace 48 = .ok (.bipush 8, 2) := by decide +kernel
theorem dX8_seesFace_50 : decode cX8_seesFace 50 = .ok (.iadd, 1) := by decide +kernel
theorem dX8_seesFace_51 : decode cX8_seesFace 51 = .ok (.i2l, 1) := by decide +kernel
theorem dX8_seesFace_52 : decode cX8_seesFace 52 = .ok (.lmul, 1) := by decide +kernel
theorem dX8_seesFace_53 : decode cX8_seesFace 53 = .ok (.invokevirtual 63, 3) := by decide +kernel
theorem dX8_seesFace_56 : decode cX8_seesFace 56 = .ok (.ireturn, 1) := by decide +kernel
theorem dX8_wouldSeeFace_0 : decode cX8_wouldSeeFace 0 = .ok (.aload_n 0, 1) := by decide +kernel
theorem dX8_wouldSeeFace_1 : decode cX8_wouldSeeFace 1 = .ok (.getfield 9, 3) := by decide +kernel
theorem dX8_wouldSeeFace_4 : decode cX8_wouldSeeFace 4 = .ok (.iload_n 1, 1) := by decide +kernel
theorem dX8_wouldSeeFace_5 : decode cX8_wouldSeeFace 5 = .ok (.invokevirtual 166, 3) := by decide +kernel
theorem dX8_wouldSeeFace_8 : decode cX8_wouldSeeFace 8 = .ok (.ifCond .eq 26, 3) := by decide +kernel
theorem dX8_wouldSeeFace_11 : decode cX8_wouldSeeFace 11 = .ok (.aload_n 0, 1) := by decide +kernel
theorem dX8_wouldSeeFace_12 : decode cX8_wouldSeeFace 12 = .ok (.getfield 15, 3) := by decide +kernel
theorem dX8_wouldSeeFace_15 : decode cX8_wouldSeeFace 15 = .ok (.iload_n 2, 1) := by decide +kernel
theorem dX8_wouldSeeFace_16 : decode cX8_wouldSeeFace 16 = .ok (.invokevirtual 170, 3) := by decide +kernel
theorem dX8_wouldSeeFace_19 : decode cX8_wouldSeeFace 19 = .ok (.ifCond .eq 15, 3) := by decide +kernel
theorem dX8_wouldSeeFace_22 : decode cX8_wouldSeeFace 22 = .ok (.aload_n 0, 1) := by decide +kernel
theorem dX8_wouldSeeFace_23 : decode cX8_wouldSeeFace 23 = .ok (.getfield 15, 3) := by decide +kernel
theorem dX8_wouldSeeFace_26 : decode cX8_wouldSeeFace 26 = .ok (.getfield 155, 3) := by decide +kernel
theorem dX8_wouldSeeFace_29 : decode cX8_wouldSeeFace 29 = .ok (.iload_n 2, 1) := by decide +kernel
theorem dX8_wouldSeeFace_30 : decode cX8_wouldSeeFace 30 = .ok (.baload, 1) := by decide +kernel
theorem dX8_wouldSeeFace_31 : decode cX8_wouldSeeFace 31 = .ok (.ifCond .ne 5, 3) := by decide +kernel
theorem dX8_wouldSeeFace_34 : decode cX8_wouldSeeFace 34 = .ok (.iconst 0, 1) := by decide +kernel
theorem dX8_wouldSeeFace_35 : decode cX8_wouldSeeFace 35 = .ok (.ireturn, 1) := by decide +kernel
theorem dX8_wouldSeeFace_36 : decode cX8_wouldSeeFace 36 = .ok (.aload_n 0, 1) := by decide +kernel
theorem dX8_wouldSeeFace_37 : decode cX8_wouldSeeFace 37 = .ok (.iload_n 2, 1) := by decide +kernel
theorem dX8_wouldSeeFace_38 : decode cX8_wouldSeeFace 38 = .ok (.invokevirtual 151, 3) := by decide +kernel
theorem dX8_wouldSeeFace_41 : decode cX8_wouldSeeFace 41 = .ok (.aload_n 0, 1) := by decide +kernel
theorem dX8_wouldSeeFace_42 : decode cX8_wouldSeeFace 42 = .ok (.iload_n 1, 1) := by decide +kernel
theorem dX8_wouldSeeFace_43 : decode cX8_wouldSeeFace 43 = .ok (.invokevirtual 173, 3) := by decide +kernel
theorem dX8_wouldSeeFace_46 : decode cX8_wouldSeeFace 46 = .ok (.ireturn, 1) := by decide +kernel
theorem dX8_countsOf_0 : decode cX8_countsOf 0 = .ok (.iconst 0, 1) := by decide +kernel
theorem dX8_countsOf_1 : decode cX8_countsOf 1 = .ok (.istore_n 2, 1) := by decide +kernel
theorem dX8_countsOf_2 : decode cX8_countsOf 2 = .ok (.iconst 0, 1) := by decide +kernel
theorem dX8_countsOf_3 : decode cX8_countsOf 3 = .ok (.istore_n 3, 1) := by decide +kernel
theorem dX8_countsOf_4 : decode cX8_countsOf 4 = .ok (.iconst 0, 1) := by decide +kernel
theorem dX8_countsOf_5 : decode cX8_countsOf 5 = .ok (.istore 4, 2) := by decide +kernel
theorem dX8_countsOf_7 : decode cX8_countsOf 7 = .ok (.iload 4, 2) := by decide +kernel
theorem dX8_countsOf_9 : decode cX8_countsOf 9 = .ok (.aload_n 0, 1) := by decide +kernel
theorem dX8_countsOf_10 : decode cX8_countsOf 10 = .ok (.getfield 15, 3) := by decide +kernel
theorem dX8_countsOf_13 : decode cX8_countsOf 13 = .ok (.getfield 176, 3) := by decide +kernel
theorem dX8_countsOf_16 : decode cX8_countsOf 16 = .ok (.if_icmp .gt 51, 3) := by decide +kernel
theorem dX8_countsOf_19 : decode cX8_countsOf 19 = .ok (.aload_n 0, 1) := by decide +kernel
theorem dX8_countsOf_20 : decode cX8_countsOf 20 = .ok (.getfield 15, 3) := by decide +kernel
theorem dX8_countsOf_23 : decode cX8_countsOf 23 = .ok (.iload 4, 2) := by decide +kernel
theorem dX8_countsOf_25 : decode cX8_countsOf 25 = .ok (.invokevirtual 179, 3) := by decide +kernel
theorem dX8_countsOf_28 : decode cX8_countsOf 28 = .ok (.ifCond .ne 26, 3) := by decide +kernel
theorem dX8_countsOf_31 : decode cX8_countsOf 31 = .ok (.aload_n 0, 1) := by decide +kernel
theorem dX8_countsOf_32 : decode cX8_countsOf 32 = .ok (.iload 4, 2) := by decide +kernel
theorem dX8_countsOf_34 : decode cX8_countsOf 34 = .ok (.invokevirtual 182, 3) := by decide +kernel
theorem dX8_countsOf_37 : decode cX8_countsOf 37 = .ok (.ifCond .eq 15, 3) := by decide +kernel
theorem dX8_countsOf_40 : decode cX8_countsOf 40 = .ok (.aload_n 0, 1) := by decide +kernel
theorem dX8_countsOf_41 : decode cX8_countsOf 41 = .ok (.iload_n 1, 1) := by decide +kernel
theorem dX8_countsOf_42 : decode cX8_countsOf 42 = .ok (.invokevirtual 185, 3) := by decide +kernel
theorem dX8_countsOf_45 : decode cX8_countsOf 45 = .ok (.ifCond .eq 7, 3) := by decide +kernel
theorem dX8_countsOf_48 : decode cX8_countsOf 48 = .ok (.iconst 1, 1) := by decide +kernel
theorem dX8_countsOf_49 : decode cX8_countsOf 49 = .ok (.goto 4, 3) := by decide +kernel
theorem dX8_countsOf_52 : decode cX8_countsOf 52 = .ok (.iconst 0, 1) := by decide +kernel
theorem dX8_countsOf_53 : decode cX8_countsOf 53 = .ok (.istore_n 3, 1) := by decide +kernel
theorem dX8_countsOf_54 : decode cX8_countsOf 54 = .ok (.iload_n 3, 1) := by decide +kernel
theorem dX8_countsOf_55 : decode cX8_countsOf 55 = .ok (.ifCond .eq 6, 3) := by decide +kernel
theorem dX8_countsOf_58 : decode cX8_countsOf 58 = .ok (.iinc 2 1, 3) := by decide +kernel
theorem dX8_countsOf_61 : decode cX8_countsOf 61 = .ok (.iinc 4 1, 3) := by decide +kernel
theorem dX8_countsOf_64 : decode cX8_countsOf 64 = .ok (.goto (-57), 3) := by decide +kernel
theorem dX8_countsOf_67 : decode cX8_countsOf 67 = .ok (.iload_n 2, 1) := by decide +kernel
theorem dX8_countsOf_68 : decode cX8_countsOf 68 = .ok (.ireturn, 1) := by decide +kernel
theorem dX8_countsOfAll_0 : decode cX8_countsOfAll 0 = .ok (.iconst 0, 1) := by decide +kernel
theorem dX8_countsOfAll_1 : decode cX8_countsOfAll 1 = .ok (.istore_n 1, 1) := by decide +kernel
theorem dX8_countsOfAll_2 : decode cX8_countsOfAll 2 = .ok (.iconst 0, 1) := by decide +kernel
theorem dX8_countsOfAll_3 : decode cX8_countsOfAll 3 = .ok (.istore_n 2, 1) := by decide +kernel
theorem dX8_countsOfAll_4 : decode cX8_countsOfAll 4 = .ok (.iconst 0, 1) := by decide +kernel
theorem dX8_countsOfAll_5 : decode cX8_countsOfAll 5 = .ok (.istore_n 3, 1) := by decide +kernel
theorem dX8_countsOfAll_6 : decode cX8_countsOfAll 6 = .ok (.iload_n 3, 1) := by decide +kernel
theorem dX8_countsOfAll_7 : decode cX8_countsOfAll 7 = .ok (.aload_n 0, 1) := by decide +kernel
theorem dX8_countsOfAll_8 : decode cX8_countsOfAll 8 = .ok (.getfield 15, 3) := by decide +kernel
theorem dX8_countsOfAll_11 : decode cX8_countsOfAll 11 = .ok (.getfield 176, 3) := by decide +kernel
theorem dX8_countsOfAll_14 : decode cX8_countsOfAll 14 = .ok (.if_icmp .gt 41, 3) := by decide +kernel
theorem dX8_countsOfAll_17 : decode cX8_countsOfAll 17 = .ok (.aload_n 0, 1) := by decide +kernel
theorem dX8_countsOfAll_18 : decode cX8_countsOfAll 18 = .ok (.getfield 15, 3) := by decide +kernel
theorem dX8_countsOfAll_21 : decode cX8_countsOfAll 21 = .ok (.iload_n 3, 1) := by decide +kernel
theorem dX8_countsOfAll_22 : decode cX8_countsOfAll 22 = .ok (.invokevirtual 179, 3) := by decide +kernel
theorem dX8_countsOfAll_25 : decode cX8_countsOfAll 25 = .ok (.ifCond .ne 20, 3) := by decide +kernel
theorem dX8_countsOfAll_28 : decode cX8_countsOfAll 28 = .ok (.aload_n 0, 1) := by decide +kernel
theorem dX8_countsOfAll_29 : decode cX8_countsOfAll 29 = .ok (.iload_n 3, 1) := by decide +kernel
theorem dX8_countsOfAll_30 : decode cX8_countsOfAll 30 = .ok (.invokevirtual 182, 3) := by decide +kernel
theorem dX8_countsOfAll_33 : decode cX8_countsOfAll 33 = .ok (.ifCond .eq 10, 3) := by decide +kernel
theorem dX8_countsOfAll_36 : decode cX8_countsOfAll 36 = .ok (.aload_n 0, 1) := by decide +kernel
theorem dX8_countsOfAll_37 : decode cX8_countsOfAll 37 = .ok (.invokevirtual 188, 3) := by decide +kernel
theorem dX8_countsOfAll_40 : decode cX8_countsOfAll 40 = .ok (.goto 4, 3) := by decide +kernel
theorem dX8_countsOfAll_43 : decode cX8_countsOfAll 43 = .ok (.iconst 0, 1) := by decide +kernel
theorem dX8_countsOfAll_44 : decode cX8_countsOfAll 44 = .ok (.istore_n 2, 1) := by decide +kernel
theorem dX8_countsOfAll_45 : decode cX8_countsOfAll 45 = .ok (.iload_n 1, 1) := by decide +kernel
theorem dX8_countsOfAll_46 : decode cX8_countsOfAll 46 = .ok (.iload_n 2, 1) := by decide +kernel
theorem dX8_countsOfAll_47 : decode cX8_countsOfAll 47 = .ok (.iadd, 1) := by decide +kernel
theorem dX8_countsOfAll_48 : decode cX8_countsOfAll 48 = .ok (.istore_n 1, 1) := by decide +kernel
theorem dX8_countsOfAll_49 : decode cX8_countsOfAll 49 = .ok (.iinc 3 1, 3) := by decide +kernel
theorem dX8_countsOfAll_52 : decode cX8_countsOfAll 52 = .ok (.goto (-46), 3) := by decide +kernel
theorem dX8_countsOfAll_55 : decode cX8_countsOfAll 55 = .ok (.iload_n 1, 1) := by decide +kernel
theorem dX8_countsOfAll_56 : decode cX8_countsOfAll 56 = .ok (.ireturn, 1) := by decide +kernel
theorem dX8_seatsSeeing_0 : decode cX8_seatsSeeing 0 = .ok (.iconst 0, 1) := by decide +kernel
theorem dX8_seatsSeeing_1 : decode cX8_seatsSeeing 1 = .ok (.istore_n 1, 1) := by decide +kernel
theorem dX8_seatsSeeing_2 : decode cX8_seatsSeeing 2 = .ok (.iconst 0, 1) := by decide +kernel
theorem dX8_seatsSeeing_3 : decode cX8_seatsSeeing 3 = .ok (.istore_n 2, 1) := by decide +kernel
theorem dX8_seatsSeeing_4 : decode cX8_seatsSeeing 4 = .ok (.iload_n 2, 1) := by decide +kernel
theorem dX8_seatsSeeing_5 : decode cX8_seatsSeeing 5 = .ok (.bipush 8, 2) := by decide +kernel
theorem dX8_seatsSeeing_7 : decode cX8_seatsSeeing 7 = .ok (.if_icmp .ge 32, 3) := by decide +kernel
theorem dX8_seatsSeeing_10 : decode cX8_seatsSeeing 10 = .ok (.aload_n 0, 1) := by decide +kernel
theorem dX8_seatsSeeing_11 : decode cX8_seatsSeeing 11 = .ok (.getfield 9, 3) := by decide +kernel
theorem dX8_seatsSeeing_14 : decode cX8_seatsSeeing 14 = .ok (.getfield 75, 3) := by decide +kernel
theorem dX8_seatsSeeing_17 : decode cX8_seatsSeeing 17 = .ok (.iload_n 2, 1) := by decide +kernel
theorem dX8_seatsSeeing_18 : decode cX8_seatsSeeing 18 = .ok (.baload, 1) := by decide +kernel
theorem dX8_seatsSeeing_19 : decode cX8_seatsSeeing 19 = .ok (.ifCond .eq 14, 3) := by decide +kernel
theorem dX8_seatsSeeing_22 : decode cX8_seatsSeeing 22 = .ok (.aload_n 0, 1) := by decide +kernel
theorem dX8_seatsSeeing_23 : decode cX8_seatsSeeing 23 = .ok (.iload_n 2, 1) := by decide +kernel
theorem dX8_seatsSeeing_24 : decode cX8_seatsSeeing 24 = .ok (.invokevirtual 185, 3) := by decide +kernel
theorem dX8_seatsSeeing_27 : decode cX8_seatsSeeing 27 = .ok (.ifCond .eq 6, 3) := by decide +kernel
theorem dX8_seatsSeeing_30 : decode cX8_seatsSeeing 30 = .ok (.iinc 1 1, 3) := by decide +kernel
theorem dX8_seatsSeeing_33 : decode cX8_seatsSeeing 33 = .ok (.iinc 2 1, 3) := by decide +kernel
theorem dX8_seatsSeeing_36 : decode cX8_seatsSeeing 36 = .ok (.goto (-32), 3) := by decide +kernel
theorem dX8_seatsSeeing_39 : decode cX8_seatsSeeing 39 = .ok (.iload_n 1, 1) := by decide +kernel
theorem dX8_seatsSeeing_40 : decode cX8_seatsSeeing 40 = .ok (.ireturn, 1) := by decide +kernel
theorem dX8_markFaces_0 : decode cX8_markFaces 0 = .ok (.iconst 0, 1) := by decide +kernel
theorem dX8_markFaces_1 : decode cX8_markFaces 1 = .ok (.istore_n 2, 1) := by decide +kernel
theorem dX8_markFaces_2 : decode cX8_markFaces 2 = .ok (.iload_n 2, 1) := by decide +kernel
theorem dX8_markFaces_3 : decode cX8_markFaces 3 = .ok (.aload_n 0, 1) := by decide +kernel
theorem dX8_markFaces_4 : decode cX8_markFaces 4 = .ok (.getfield 15, 3) := by decide +kernel
theorem dX8_markFaces_7 : decode cX8_markFaces 7 = .ok (.getfield 176, 3) := by decide +kernel
theorem dX8_markFaces_10 : decode cX8_markFaces 10 = .ok (.if_icmp .gt 42, 3) := by decide +kernel
theorem dX8_markFaces_13 : decode cX8_markFaces 13 = .ok (.aload_n 0, 1) := by decide +kernel
theorem dX8_markFaces_14 : decode cX8_markFaces 14 = .ok (.getfield 15, 3) := by decide +kernel
theorem dX8_markFaces_17 : decode cX8_markFaces 17 = .ok (.getfield 155, 3) := by decide +kernel
theorem dX8_markFaces_20 : decode cX8_markFaces 20 = .ok (.iload_n 2, 1) := by decide +kernel
theorem dX8_markFaces_21 : decode cX8_markFaces 21 = .ok (.baload, 1) := by decide +kernel
theorem dX8_markFaces_22 : decode cX8_markFaces 22 = .ok (.ifCond .eq 24, 3) := by decide +kernel
theorem dX8_markFaces_25 : decode cX8_markFaces 25 = .ok (.aload_n 0, 1) := by decide +kernel
theorem dX8_markFaces_26 : decode cX8_markFaces 26 = .ok (.getfield 15, 3) := by decide +kernel
theorem dX8_markFaces_29 : decode cX8_markFaces 29 = .ok (.iload_n 2, 1) := by decide +kernel
theorem dX8_markFaces_30 : decode cX8_markFaces 30 = .ok (.invokevirtual 179, 3) := by decide +kernel
theorem dX8_markFaces_33 : decode cX8_markFaces 33 = .ok (.ifCond .ne 13, 3) := by decide +kernel
theorem dX8_markFaces_36 : decode cX8_markFaces 36 = .ok (.aload_n 0, 1) := by decide +kernel
theorem dX8_markFaces_37 : decode cX8_markFaces 37 = .ok (.iload_n 2, 1) := by decide +kernel
theorem dX8_markFaces_38 : decode cX8_markFaces 38 = .ok (.invokevirtual 151, 3) := by decide +kernel
theorem dX8_markFaces_41 : decode cX8_markFaces 41 = .ok (.aload_n 0, 1) := by decide +kernel
theorem dX8_markFaces_42 : decode cX8_markFaces 42 = .ok (.aload_n 1, 1) := by decide +kernel
theorem dX8_markFaces_43 : decode cX8_markFaces 43 = .ok (.invokevirtual 191, 3) := by decide +kernel
theorem dX8_markFaces_46 : decode cX8_markFaces 46 = .ok (.iinc 2 1, 3) := by decide +kernel
theorem dX8_markFaces_49 : decode cX8_markFaces 49 = .ok (.goto (-47), 3) := by decide +kernel
theorem dX8_markFaces_52 : decode cX8_markFaces 52 = .ok (.return_, 1) := by decide +kernel
theorem dX8_markFacesHere_0 : decode cX8_markFacesHere 0 = .ok (.iconst 0, 1) := by decide +kernel
theorem dX8_markFacesHere_1 : decode cX8_markFacesHere 1 = .ok (.istore_n 2, 1) := by decide +kernel
theorem dX8_markFacesHere_2 : decode cX8_markFacesHere 2 = .ok (.iload_n 2, 1) := by decide +kernel
theorem dX8_markFacesHere_3 : decode cX8_markFacesHere 3 = .ok (.bipush 8, 2) := by decide +kernel
theorem dX8_markFacesHere_5 : decode cX8_markFacesHere 5 = .ok (.if_icmp .ge 40, 3) := by decide +kernel
theorem dX8_markFacesHere_8 : decode cX8_markFacesHere 8 = .ok (.aload_n 0, 1) := by decide +kernel
theorem dX8_markFacesHere_9 : decode cX8_markFacesHere 9 = .ok (.getfield 9, 3) := by decide +kernel
theorem dX8_markFacesHere_12 : decode cX8_markFacesHere 12 = .ok (.getfield 75, 3) := by decide +kernel
theorem dX8_markFacesHere_15 : decode cX8_markFacesHere 15 = .ok (.iload_n 2, 1) := by decide +kernel
theorem dX8_markFacesHere_16 : decode cX8_markFacesHere 16 = .ok (.baload, 1) := by decide +kernel
theorem dX8_markFacesHere_17 : decode cX8_markFacesHere 17 = .ok (.ifCond .eq 22, 3) := by decide +kernel
theorem dX8_markFacesHere_20 : decode cX8_markFacesHere 20 = .ok (.aload_n 0, 1) := by decide +kernel
theorem dX8_markFacesHere_21 : decode cX8_markFacesHere 21 = .ok (.iload_n 2, 1) := by decide +kernel
theorem dX8_markFacesHere_22 : decode cX8_markFacesHere 22 = .ok (.invokevirtual 173, 3) := by decide +kernel
theorem dX8_markFacesHere_25 : decode cX8_markFacesHere 25 = .ok (.ifCond .eq 14, 3) := by decide +kernel
theorem dX8_markFacesHere_28 : decode cX8_markFacesHere 28 = .ok (.aload_n 1, 1) := by decide +kernel
theorem dX8_markFacesHere_29 : decode cX8_markFacesHere 29 = .ok (.aload_n 0, 1) := by decide +kernel
theorem dX8_markFacesHere_30 : decode cX8_markFacesHere 30 = .ok (.getfield 22, 3) := by decide +kernel
theorem dX8_markFacesHere_33 : decode cX8_markFacesHere 33 = .ok (.invokevirtual 195, 3) := by decide +kernel
theorem dX8_markFacesHere_36 : decode cX8_markFacesHere 36 = .ok (.invokevirtual 198, 3) := by decide +kernel
theorem dX8_markFacesHere_39 : decode cX8_markFacesHere 39 = .ok (.iinc 2 1, 3) := by decide +kernel
theorem dX8_markFacesHere_42 : decode cX8_markFacesHere 42 = .ok (.goto (-40), 3) := by decide +kernel
theorem dX8_markFacesHere_45 : decode cX8_markFacesHere 45 = .ok (.return_, 1) := by decide +kernel
theorem dX9_init_0 : decode cX9_init 0 = .ok (.aload_n 0, 1) := by decide +kernel
theorem dX9_init_1 : decode cX9_init 1 = .ok (.invokespecial 3, 3) := by decide +kernel
theorem dX9_init_4 : decode cX9_init 4 = .ok (.aload_n 0, 1) := by decide +kernel
theorem dX9_init_5 : decode cX9_init 5 = .ok (.iconst 0, 1) := by decide +kernel
theorem dX9_init_6 : decode cX9_init 6 = .ok (.putfield 9, 3) := by decide +kernel
theorem dX9_init_9 : decode cX9_init 9 = .ok (.aload_n 0, 1) := by decide +kernel
theorem dX9_init_10 : decode cX9_init 10 = .ok (.iconst (-1), 1) := by decide +kernel
theorem dX9_init_11 : decode cX9_init 11 = .ok (.putfield 15, 3) := by decide +kernel
theorem dX9_init_14 : decode cX9_init 14 = .ok (.aload_n 0, 1) := by decide +kernel
theorem dX9_init_15 : decode cX9_init 15 = .ok (.sipush 600, 3) := by decide +kernel
theorem dX9_init_18 : decode cX9_init 18 = .ok (.newarray .byte, 2) := by decide +kernel
theorem dX9_init_20 : decode cX9_init 20 = .ok (.putfield 18, 3) := by decide +kernel
theorem dX9_init_23 : decode cX9_init 23 = .ok (.return_, 1) := by decide +kernel
theorem dX9_hasRoom_0 : decode cX9_hasRoom 0 = .ok (.aload_n 0, 1) := by decide +kernel
theorem dX9_hasRoom_1 : decode cX9_hasRoom 1 = .ok (.getfield 22, 3) := by decide +kernel
theorem dX9_hasRoom_4 : decode cX9_hasRoom 4 = .ok (.bipush 20, 2) := by decide +kernel
theorem dX9_hasRoom_6 : decode cX9_hasRoom 6 = .ok (.iadd, 1) := by decide +kernel
theorem dX9_hasRoom_7 : decode cX9_hasRoom 7 = .ok (.sipush 600, 3) := by decide +kernel
theorem dX9_hasRoom_10 : decode cX9_hasRoom 10 = .ok (.if_icmp .gt 7, 3) := by decide +kernel
theorem dX9_hasRoom_13 : decode cX9_hasRoom 13 = .ok (.iconst 1, 1) := by decide +kernel
theorem dX9_hasRoom_14 : decode cX9_hasRoom 14 = .ok (.goto 4, 3) := by decide +kernel
theorem dX9_hasRoom_17 : decode cX9_hasRoom 17 = .ok (.iconst 0, 1) := by decide +kernel
theorem dX9_hasRoom_18 : decode cX9_hasRoom 18 = .ok (.ireturn, 1) := by decide +kernel
theorem dX9_append_0 : decode cX9_append 0 = .ok (.bipush 24, 2) := by decide +kernel
theorem dX9_append_2 : decode cX9_append 2 = .ok (.istore_n 2, 1) := by decide +kernel
theorem dX9_append_3 : decode cX9_append 3 = .ok (.iload_n 2, 1) := by decide +kernel
theorem dX9_append_4 : decode cX9_append 4 = .ok (.ifCond .lt 42, 3) := by decide +kernel
theorem dX9_append_7 : decode cX9_append 7 = .ok (.aload_n 0, 1) := by decide +kernel
theorem dX9_append_8 : decode cX9_append 8 = .ok (.getfield 22, 3) := by decide +kernel
theorem dX9_append_11 : decode cX9_append 11 = .ok (.sipush 600, 3) := by decide +kernel
theorem dX9_append_14 : decode cX9_append 14 = .ok (.if_icmp .ge 32, 3) := by decide +kernel
theorem dX9_append_17 : decode cX9_append 17 = .ok (.aload_n 0, 1) := by decide +kernel
theorem dX9_append_18 : decode cX9_append 18 = .ok (.getfield 18, 3) := by decide +kernel
theorem dX9_append_21 : decode cX9_append 21 = .ok (.aload_n 0, 1) := by decide +kernel
theorem dX9_append_22 : decode cX9_append 22 = .ok (.getfield 22, 3) := by decide +kernel
theorem dX9_append_25 : decode cX9_append 25 = .ok (.iload_n 1, 1) := by decide +kernel
theorem dX9_append_26 : decode cX9_append 26 = .ok (.iload_n 2, 1) := by decide +kernel
theorem dX9_append_27 : decode cX9_append 27 = .ok (.iushr, 1) := by decide +kernel
theorem dX9_append_28 : decode cX9_append 28 = .ok (.i2b, 1) := by decide +kernel
theorem dX9_append_29 : decode cX9_append 29 = .ok (.bastore, 1) := by decide +kernel
theorem dX9_append_30 : decode cX9_append 30 = .ok (.aload_n 0, 1) := by decide +kernel
theorem dX9_append_31 : decode cX9_append 31 = .ok (.dup, 1) := by decide +kernel
theorem dX9_append_32 : decode cX9_append 32 = .ok (.getfield 22, 3) := by decide +kernel
theorem dX9_append_35 : decode cX9_append 35 = .ok (.iconst 1, 1) := by decide +kernel
theorem dX9_append_36 : decode cX9_append 36 = .ok (.iadd, 1) := by decide +kernel
theorem dX9_append_37 : decode cX9_append 37 = .ok (.putfield 22, 3) := by decide +kernel
theorem dX9_append_40 : decode cX9_append 40 = .ok (.iinc 2 (-8), 3) := by decide +kernel
theorem dX9_append_43 : decode cX9_append 43 = .ok (.goto (-40), 3) := by decide +kernel
theorem dX9_append_46 : decode cX9_append 46 = .ok (.return_, 1) := by decide +kernel
theorem dX9_rewind_0 : decode cX9_rewind 0 = .ok (.aload_n 0, 1) := by decide +kernel
theorem dX9_rewind_1 : decode cX9_rewind 1 = .ok (.iconst 0, 1) := by decide +kernel
theorem dX9_rewind_2 : decode cX9_rewind 2 = .ok (.putfield 25, 3) := by decide +kernel
theorem dX9_rewind_5 : decode cX9_rewind 5 = .ok (.aload_n 0, 1) := by decide +kernel
theorem dX9_rewind_6 : decode cX9_rewind 6 = .ok (.iconst 0, 1) := by decide +kernel
theorem dX9_rewind_7 : decode cX9_rewind 7 = .ok (.putfield 9, 3) := by decide +kernel
theorem dX9_rewind_10 : decode cX9_rewind 10 = .ok (.aload_n 0, 1) := by decide +kernel
theorem dX9_rewind_11 : decode cX9_rewind 11 = .ok (.iconst (-1), 1) := by decide +kernel
theorem dX9_rewind_12 : decode cX9_rewind 12 = .ok (.putfield 15, 3) := by decide +kernel
theorem dX9_rewind_15 : decode cX9_rewind 15 = .ok (.return_, 1) := by decide +kernel
theorem dX9_fail_0 : decode cX9_fail 0 = .ok (.aload_n 0, 1) := by decide +kernel
theorem dX9_fail_1 : decode cX9_fail 1 = .ok (.getfield 9, 3) := by decide +kernel
theorem dX9_fail_4 : decode cX9_fail 4 = .ok (.ifCond .ne 13, 3) := by decide +kernel
theorem dX9_fail_7 : decode cX9_fail 7 = .ok (.aload_n 0, 1) := by decide +kernel
theorem dX9_fail_8 : decode cX9_fail 8 = .ok (.iload_n 1, 1) := by decide +kernel
theorem dX9_fail_9 : decode cX9_fail 9 = .ok (.putfield 9, 3) := by decide +kernel
theorem dX9_fail_12 : decode cX9_fail 12 = .ok (.aload_n 0, 1) := by decide +kernel
theorem dX9_fail_13 : decode cX9_fail 13 = .ok (.iload_n 2, 1) := by decide +kernel
theorem dX9_fail_14 : decode cX9_fail 14 = .ok (.putfield 15, 3) := by decide +kernel
theorem dX9_fail_17 : decode cX9_fail 17 = .ok (.return_, 1) := by decide +kernel
theorem dX9_isRead_0 : decode cX9_isRead 0 = .ok (.aload_n 0, 1) := by decide +kernel
theorem dX9_isRead_1 : decode cX9_isRead 1 = .ok (.getfield 25, 3) := by decide +kernel
theorem dX9_isRead_4 : decode cX9_isRead 4 = .ok (.aload_n 0, 1) := by decide +kernel
theorem dX9_isRead_5 : decode cX9_isRead 5 = .ok (.getfield 22, 3) := by decide +kernel
theorem dX9_isRead_8 : decode cX9_isRead 8 = .ok (.if_icmp .lt 7, 3) := by decide +kernel
theorem dX9_isRead_11 : decode cX9_isRead 11 = .ok (.iconst 1, 1) := by decide +kernel
theorem dX9_isRead_12 : decode cX9_isRead 12 = .ok (.goto 4, 3) := by decide +kernel
theorem dX9_isRead_15 : decode cX9_isRead 15 = .ok (.iconst 0, 1) := by decide +kernel
theorem dX9_isRead_16 : decode cX9_isRead 16 = .ok (.ireturn, 1) := by decide +kernel
theorem dX9_place_0 : decode cX9_place 0 = .ok (.aload_n 0, 1) := by decide +kernel
theorem dX9_place_1 : decode cX9_place 1 = .ok (.getfield 25, 3) := by decide +kernel
theorem dX9_place_4 : decode cX9_place 4 = .ok (.ireturn, 1) := by decide +kernel
theorem dX9_skipBlanks_0 : decode cX9_skipBlanks 0 = .ok (.aload_n 0, 1) := by decide +kernel
theorem dX9_skipBlanks_1 : decode cX9_skipBlanks 1 = .ok (.getfield 25, 3) := by decide +kernel
theorem dX9_skipBlanks_4 : decode cX9_skipBlanks 4 = .ok (.aload_n 0, 1) := by decide +kernel
theorem dX9_skipBlanks_5 : decode cX9_skipBlanks 5 = .ok (.getfield 22, 3) := by decide +kernel
theorem dX9_skipBlanks_8 : decode cX9_skipBlanks 8 = .ok (.if_icmp .ge 44, 3) := by decide +kernel
theorem dX9_skipBlanks_11 : decode cX9_skipBlanks 11 = .ok (.aload_n 0, 1) := by decide +kernel
theorem dX9_skipBlanks_12 : decode cX9_skipBlanks 12 = .ok (.getfield 18, 3) := by decide +kernel
theorem dX9_skipBlanks_15 : decode cX9_skipBlanks 15 = .ok (.aload_n 0, 1) := by decide +kernel
theorem dX9_skipBlanks_16 : decode cX9_skipBlanks 16 = .ok (.getfield 25, 3) := by decide +kernel
theorem dX9_skipBlanks_19 : decode cX9_skipBlanks 19 = .ok (.baload, 1) := by decide +kernel
theorem dX9_skipBlanks_20 : decode cX9_skipBlanks 20 = .ok (.bipush 10, 2) := by decide +kernel
theorem dX9_skipBlanks_22 : decode cX9_skipBlanks 22 = .ok (.if_icmp .eq 17, 3) := by decide +kernel
theorem dX9_skipBlanks_25 : decode cX9_skipBlanks 25 = .ok (.aload_n 0, 1) := by decide +kernel
theorem dX9_skipBlanks_26 : decode cX9_skipBlanks 26 = .ok (.getfield 18, 3) := by decide +kernel
theorem dX9_skipBlanks_29 : decode cX9_skipBlanks 29 = .ok (.aload_n 0, 1) := by decide +kernel
theorem dX9_skipBlanks_30 : decode cX9_skipBlanks 30 = .ok (.getfield 25, 3) := by decide +kernel
theorem dX9_skipBlanks_33 : decode cX9_skipBlanks 33 = .ok (.baload, 1) := by decide +kernel
theorem dX9_skipBlanks_34 : decode cX9_skipBlanks 34 = .ok (.bipush 32, 2) := by decide +kernel
theorem dX9_skipBlanks_36 : decode cX9_skipBlanks 36 = .ok (.if_icmp .ne 16, 3) := by decide +kernel
theorem dX9_skipBlanks_39 : decode cX9_skipBlanks 39 = .ok (.aload_n 0, 1) := by decide +kernel
theorem dX9_skipBlanks_40 : decode cX9_skipBlanks 40 = .ok (.dup, 1) := by decide +kernel
theorem dX9_skipBlanks_41 : decode cX9_skipBlanks 41 = .ok (.getfield 25, 3) := by decide +kernel
theorem dX9_skipBlanks_44 : decode cX9_skipBlanks 44 = .ok (.iconst 1, 1) := by decide +kernel
theorem dX9_skipBlanks_45 : decode cX9_skipBlanks 45 = .ok (.iadd, 1) := by decide +kernel
theorem dX9_skipBlanks_46 : decode cX9_skipBlanks 46 = .ok (.putfield 25, 3) := by decide +kernel
theorem dX9_skipBlanks_49 : decode cX9_skipBlanks 49 = .ok (.goto (-49), 3) := by decide +kernel
theorem dX9_skipBlanks_52 : decode cX9_skipBlanks 52 = .ok (.return_, 1) := by decide +kernel
theorem dX9_skipGap_0 : decode cX9_skipGap 0 = .ok (.aload_n 0, 1) := by decide +kernel
theorem dX9_skipGap_1 : decode cX9_skipGap 1 = .ok (.getfield 25, 3) := by decide +kernel
theorem dX9_skipGap_4 : decode cX9_skipGap 4 = .ok (.istore_n 1, 1) := by decide +kernel
theorem dX9_skipGap_5 : decode cX9_skipGap 5 = .ok (.aload_n 0, 1) := by decide +kernel
theorem dX9_skipGap_6 : decode cX9_skipGap 6 = .ok (.invokevirtual 28, 3) := by decide +kernel
theorem dX9_skipGap_9 : decode cX9_skipGap 9 = .ok (.aload_n 0, 1) := by decide +kernel
theorem dX9_skipGap_10 : decode cX9_skipGap 10 = .ok (.getfield 25, 3) := by decide +kernel
theorem dX9_skipGap_13 : decode cX9_skipGap 13 = .ok (.iload_n 1, 1) := by decide +kernel
theorem dX9_skipGap_14 : decode cX9_skipGap 14 = .ok (.if_icmp .ne 12, 3) := by decide +kernel
theorem dX9_skipGap_17 : decode cX9_skipGap 17 = .ok (.aload_n 0, 1) := by decide +kernel
theorem dX9_skipGap_18 : decode cX9_skipGap 18 = .ok (.iconst 1, 1) := by decide +kernel
theorem dX9_skipGap_19 : decode cX9_skipGap 19 = .ok (.aload_n 0, 1) := by decide +kernel
theorem dX9_skipGap_20 : decode cX9_skipGap 20 = .ok (.getfield 25, 3) := by decide +kernel
theorem dX9_skipGap_23 : decode cX9_skipGap 23 = .ok (.invokevirtual 31, 3) := by decide +kernel
theorem dX9_skipGap_26 : decode cX9_skipGap 26 = .ok (.return_, 1) := by decide +kernel
theorem dX9_takesSign_0 : decode cX9_takesSign 0 = .ok (.aload_n 0, 1) := by decide +kernel
theorem dX9_takesSign_1 : decode cX9_takesSign 1 = .ok (.getfield 9, 3) := by decide +kernel
theorem dX9_takesSign_4 : decode cX9_takesSign 4 = .ok (.ifCond .ne 27, 3) := by decide +kernel
theorem dX9_takesSign_7 : decode cX9_takesSign 7 = .ok (.aload_n 0, 1) := by decide +kernel
theorem dX9_takesSign_8 : decode cX9_takesSign 8 = .ok (.getfield 25, 3) := by decide +kernel
theorem dX9_takesSign_11 : decode cX9_takesSign 11 = .ok (.aload_n 0, 1) := by decide +kernel
theorem dX9_takesSign_12 : decode cX9_takesSign 12 = .ok (.getfield 22, 3) := by decide +kernel
theorem dX9_takesSign_15 : decode cX9_takesSign 15 = .ok (.if_icmp .ge 16, 3) := by decide +kernel
theorem dX9_takesSign_18 : decode cX9_takesSign 18 = .ok (.aload_n 0, 1) := by decide +kernel
theorem dX9_takesSign_19 : decode cX9_takesSign 19 = .ok (.getfield 18, 3) := by decide +kernel
theorem dX9_takesSign_22 : decode cX9_takesSign 22 = .ok (.aload_n 0, 1) := by decide +kernel
theorem dX9_takesSign_23 : decode cX9_takesSign 23 = .ok (.getfield 25, 3) := by decide +kernel
theorem dX9_takesSign_26 : decode cX9_takesSign 26 = .ok (.baload, 1) := by decide +kernel
theorem dX9_takesSign_27 : decode cX9_takesSign 27 = .ok (.iload_n 1, 1) := by decide +kernel
theorem dX9_takesSign_28 : decode cX9_takesSign 28 = .ok (.if_icmp .eq 5, 3) := by decide +kernel
theorem dX9_takesSign_31 : decode cX9_takesSign 31 = .ok (.iconst 0, 1) := by decide +kernel
theorem dX9_takesSign_32 : decode cX9_takesSign 32 = .ok (.ireturn, 1) := by decide +kernel
theorem dX9_takesSign_33 : decode cX9_takesSign 33 = .ok (.aload_n 0, 1) := by decide +kernel
theorem dX9_takesSign_34 : decode cX9_takesSign 34 = .ok (.dup, 1) := by decide +kernel
theorem dX9_takesSign_35 : decode cX9_takesSign 35 = .ok (.getfield 25, 3) := by decide +kernel
theorem dX9_takesSign_38 : decode cX9_takesSign 38 = .ok (.iconst 1, 1) := by decide +kernel
theorem dX9_takesSign_39 : decode cX9_takesSign 39 = .ok (.iadd, 1) := by decide +kernel
theorem dX9_takesSign_40 : decode cX9_takesSign 40 = .ok (.putfield 25, 3) := by decide +kernel
theorem dX9_takesSign_43 : decode cX9_takesSign 43 = .ok (.iconst 1, 1) := by decide +kernel
theorem dX9_takesSign_44 : decode cX9_takesSign 44 = .ok (.ireturn, 1) := by decide +kernel
theorem dX9_needSign_0 : decode cX9_needSign 0 = .ok (.aload_n 0, 1) := by decide +kernel
theorem dX9_needSign_1 : decode cX9_needSign 1 = .ok (.getfield 9, 3) := by decide +kernel
theorem dX9_needSign_4 : decode cX9_needSign 4 = .ok (.ifCond .ne 24, 3) := by decide +kernel
theorem dX9_needSign_7 : decode cX9_needSign 7 = .ok (.aload_n 0, 1) := by decide +kernel
theorem dX9_needSign_8 : decode cX9_needSign 8 = .ok (.invokevirtual 28, 3) := by decide +kernel
theorem dX9_needSign_11 : decode cX9_needSign 11 = .ok (.aload_n 0, 1) := by decide +kernel
theorem dX9_needSign_12 : decode cX9_needSign 12 = .ok (.iload_n 1, 1) := by decide +kernel
theorem dX9_needSign_13 : decode cX9_needSign 13 = .ok (.invokevirtual 35, 3) := by decide +kernel
theorem dX9_needSign_16 : decode cX9_needSign 16 = .ok (.ifCond .ne 12, 3) := by decide +kernel
theorem dX9_needSign_19 : decode cX9_needSign 19 = .ok (.aload_n 0, 1) := by decide +kernel
theorem dX9_needSign_20 : decode cX9_needSign 20 = .ok (.iconst 1, 1) := by decide +kernel
theorem dX9_needSign_21 : decode cX9_needSign 21 = .ok (.aload_n 0, 1) := by decide +kernel
theorem dX9_needSign_22 : decode cX9_needSign 22 = .ok (.getfield 25, 3) := by decide +kernel
theorem dX9_needSign_25 : decode cX9_needSign 25 = .ok (.invokevirtual 31, 3) := by decide +kernel
theorem dX9_needSign_28 : decode cX9_needSign 28 = .ok (.return_, 1) := by decide +kernel
theorem dX9_readWord_0 : decode cX9_readWord 0 = .ok (.aload_n 0, 1) := by decide +kernel
theorem dX9_readWord_1 : decode cX9_readWord 1 = .ok (.aload_n 0, 1) := by decide +kernel
theorem dX9_readWord_2 : decode cX9_readWord 2 = .ok (.getfield 25, 3) := by decide +kernel
theorem dX9_readWord_5 : decode cX9_readWord 5 = .ok (.putfield 39, 3) := by decide +kernel
theorem dX9_readWord_8 : decode cX9_readWord 8 = .ok (.aload_n 0, 1) := by decide +kernel
theorem dX9_readWord_9 : decode cX9_readWord 9 = .ok (.getfield 25, 3) := by decide +kernel
theorem dX9_readWord_12 : decode cX9_readWord 12 = .ok (.aload_n 0, 1) := by decide +kernel
theorem dX9_readWord_13 : decode cX9_readWord 13 = .ok (.getfield 22, 3) := by decide +kernel
theorem dX9_readWord_16 : decode cX9_readWord 16 = .ok (.if_icmp .ge 23, 3) := by decide +kernel
theorem dX9_readWord_19 : decode cX9_readWord 19 = .ok (.aload_n 0, 1) := by decide +kernel
theorem dX9_readWord_20 : decode cX9_readWord 20 = .ok (.invokevirtual 42, 3) := by decide +kernel
theorem dX9_readWord_23 : decode cX9_readWord 23 = .ok (.ifCond .eq 16, 3) := by decide +kernel
theorem dX9_readWord_26 : decode cX9_readWord 26 = .ok (.aload_n 0, 1) := by decide +kernel
theorem dX9_readWord_27 : decode cX9_readWord 27 = .ok (.dup, 1) := by decide +kernel
theorem dX9_readWord_28 : decode cX9_readWord 28 = .ok (.getfield 25, 3) := by decide +kernel
theorem dX9_readWord_31 : decode cX9_readWord 31 = .ok (.iconst 1, 1) := by decide +kernel
theorem dX9_readWord_32 : decode cX9_readWord 32 = .ok (.iadd, 1) := by decide +kernel
theorem dX9_readWord_33 : decode cX9_readWord 33 = .ok (.putfield 25, 3) := by decide +kernel
theorem dX9_readWord_36 : decode cX9_readWord 36 = .ok (.goto (-28), 3) := by decide +kernel
theorem dX9_readWord_39 : decode cX9_readWord 39 = .ok (.aload_n 0, 1) := by decide +kernel
theorem dX9_readWord_40 : decode cX9_readWord 40 = .ok (.aload_n 0, 1) := by decide +kernel
theorem dX9_readWord_41 : decode cX9_readWord 41 = .ok (.getfield 25, 3) := by decide +kernel
theorem dX9_readWord_44 : decode cX9_readWord 44 = .ok (.putfield 46, 3) := by decide +kernel
theorem dX9_readWord_47 : decode cX9_readWord 47 = .ok (.return_, 1) := by decide +kernel
theorem dX9_isWord_0 : decode cX9_isWord 0 = .ok (.aload_n 0, 1) := by decide +kernel
theorem dX9_isWord_1 : decode cX9_isWord 1 = .ok (.getfield 46, 3) := by decide +kernel
theorem dX9_isWord_4 : decode cX9_isWord 4 = .ok (.aload_n 0, 1) := by decide +kernel
theorem dX9_isWord_5 : decode cX9_isWord 5 = .ok (.getfield 39, 3) := by decide +kernel
theorem dX9_isWord_8 : decode cX9_isWord 8 = .ok (.isub, 1) := by decide +kernel
theorem dX9_isWord_9 : decode cX9_isWord 9 = .ok (.aload_n 1, 1) := by decide +kernel
theorem dX9_isWord_10 : decode cX9_isWord 10 = .ok (.invokevirtual 49, 3) := by decide +kernel
theorem dX9_isWord_13 : decode cX9_isWord 13 = .ok (.if_icmp .eq 5, 3) := by decide +kernel
theorem dX9_isWord_16 : decode cX9_isWord 16 = .ok (.iconst 0, 1) := by decide +kernel
theorem dX9_isWord_17 : decode cX9_isWord 17 = .ok (.ireturn, 1) := by decide +kernel
theorem dX9_isWord_18 : decode cX9_isWord 18 = .ok (.iconst 0, 1) := by decide +kernel
theorem dX9_isWord_19 : decode cX9_isWord 19 = .ok (.istore_n 2, 1) := by decide +kernel
theorem dX9_isWord_20 : decode cX9_isWord 20 = .ok (.iload_n 2, 1) := by decide +kernel
theorem dX9_isWord_21 : decode cX9_isWord 21 = .ok (.aload_n 1, 1) := by decide +kernel
theorem dX9_isWord_22 : decode cX9_isWord 22 = .ok (.invokevirtual 49, 3) := by decide +kernel
theorem dX9_isWord_25 : decode cX9_isWord 25 = .ok (.if_icmp .ge 42, 3) := by decide +kernel
theorem dX9_isWord_28 : decode cX9_isWord 28 = .ok (.aload_n 0, 1) := by decide +kernel
theorem dX9_isWord_29 : decode cX9_isWord 29 = .ok (.getfield 39, 3) := by decide +kernel
theorem dX9_isWord_32 : decode cX9_isWord 32 = .ok (.iload_n 2, 1) := by decide +kernel
theorem dX9_isWord_33 : decode cX9_isWord 33 = .ok (.iadd, 1) := by decide +kernel
theorem dX9_isWord_34 : decode cX9_isWord 34 = .ok (.sipush 600, 3) := by decide +kernel
theorem dX9_isWord_37 : decode cX9_isWord 37 = .ok (.if_icmp .ge 30, 3) := by decide +kernel
theorem dX9_isWord_40 : decode cX9_isWord 40 = .ok (.aload_n 0, 1) := by decide +kernel
theorem dX9_isWord_41 : decode cX9_isWord 41 = .ok (.getfield 18, 3) := by decide +kernel
theorem dX9_isWord_44 : decode cX9_isWord 44 = .ok (.aload_n 0, 1) := by decide +kernel
theorem dX9_isWord_45 : decode cX9_isWord 45 = .ok (.getfield 39, 3) := by decide +kernel
theorem dX9_isWord_48 : decode cX9_isWord 48 = .ok (.iload_n 2, 1) := by decide +kernel
theorem dX9_isWord_49 : decode cX9_isWord 49 = .ok (.iadd, 1) := by decide +kernel
theorem dX9_isWord_50 : decode cX9_isWord 50 = .ok (.baload, 1) := by decide +kernel
theorem dX9_isWord_51 : decode cX9_isWord 51 = .ok (.aload_n 1, 1) := by decide +kernel
theorem dX9_isWord_52 : decode cX9_isWord 52 = .ok (.iload_n 2, 1) := by decide +kernel
theorem dX9_isWord_53 : decode cX9_isWord 53 = .ok (.invokevirtual 54, 3) := by decide +kernel
theorem dX9_isWord_56 : decode cX9_isWord 56 = .ok (.if_icmp .eq 5, 3) := by decide +kernel
theorem dX9_isWord_59 : decode cX9_isWord 59 = .ok (.iconst 0, 1) := by decide +kernel
theorem dX9_isWord_60 : decode cX9_isWord 60 = .ok (.ireturn, 1) := by decide +kernel
theorem dX9_isWord_61 : decode cX9_isWord 61 = .ok (.iinc 2 1, 3) := by decide +kernel
theorem dX9_isWord_64 : decode cX9_isWord 64 = .ok (.goto (-44), 3) := by decide +kernel
theorem dX9_isWord_67 : decode cX9_isWord 67 = .ok (.iconst 1, 1) := by decide +kernel
theorem dX9_isWord_68 : decode cX9_isWord 68 = .ok (.ireturn, 1) := by decide +kernel
theorem dX9_isSameWord_0 : decode cX9_isSameWord 0 = .ok (.iload_n 2, 1) := by decide +kernel
theorem dX9_isSameWord_1 : decode cX9_isSameWord 1 = .ok (.iload_n 1, 1) := by decide +kernel
theorem dX9_isSameWord_2 : decode cX9_isSameWord 2 = .ok (.isub, 1) := by decide +kernel
theorem dX9_isSameWord_3 : decode cX9_isSameWord 3 = .ok (.aload_n 0, 1) := by decide +kernel
theorem dX9_isSameWord_4 : decode cX9_isSameWord 4 = .ok (.getfield 46, 3) := by decide +kernel
theorem dX9_isSameWord_7 : decode cX9_isSameWord 7 = .ok (.aload_n 0, 1) := by decide +kernel
theorem dX9_isSameWord_8 : decode cX9_isSameWord 8 = .ok (.getfield 39, 3) := by decide +kernel
theorem dX9_isSameWord_11 : decode cX9_isSameWord 11 = .ok (.isub, 1) := by decide +kernel
theorem dX9_isSameWord_12 : decode cX9_isSameWord 12 = .ok (.if_icmp .eq 5, 3) := by decide +kernel
theorem dX9_isSameWord_15 : decode cX9_isSameWord 15 = .ok (.iconst 0, 1) := by decide +kernel
theorem dX9_isSameWord_16 : decode cX9_isSameWord 16 = .ok (.ireturn, 1) := by decide +kernel
theorem dX9_isSameWord_17 : decode cX9_isSameWord 17 = .ok (.iconst 0, 1) := by decide +kernel
theorem dX9_isSameWord_18 : decode cX9_isSameWord 18 = .ok (.istore_n 3, 1) := by decide +kernel
theorem dX9_isSameWord_19 : decode cX9_isSameWord 19 = .ok (.iload_n 1, 1) := by decide +kernel
theorem dX9_isSameWord_20 : decode cX9_isSameWord 20 = .ok (.iload_n 3, 1) := by decide +kernel
theorem dX9_isSameWord_21 : decode cX9_isSameWord 21 = .ok (.iadd, 1) := by decide +kernel
theorem dX9_isSameWord_22 : decode cX9_isSameWord 22 = .ok (.iload_n 2, 1) := by decide +kernel
theorem dX9_isSameWord_23 : decode cX9_isSameWord 23 = .ok (.if_icmp .ge 50, 3) := by decide +kernel
theorem dX9_isSameWord_26 : decode cX9_isSameWord 26 = .ok (.iload_n 2, 1) := by decide +kernel
theorem dX9_isSameWord_27 : decode cX9_isSameWord 27 = .ok (.sipush 600, 3) := by decide +kernel
theorem dX9_isSameWord_30 : decode cX9_isSameWord 30 = .ok (.if_icmp .gt 43, 3) := by decide +kernel
theorem dX9_isSameWord_33 : decode cX9_isSameWord 33 = .ok (.aload_n 0, 1) := by decide +kernel
theorem dX9_isSameWord_34 : decode cX9_isSameWord 34 = .ok (.getfield 46, 3) := by decide +kernel
theorem dX9_isSameWord_37 : decode cX9_isSameWord 37 = .ok (.sipush 600, 3) := by decide +kernel
theorem dX9_isSameWord_40 : decode cX9_isSameWord 40 = .ok (.if_icmp .gt 33, 3) := by decide +kernel
theorem dX9_isSameWord_43 : decode cX9_isSameWord 43 = .ok (.aload_n 0, 1) := by decide +kernel
theorem dX9_isSameWord_44 : decode cX9_isSameWord 44 = .ok (.getfield 18, 3) := by decide +kernel
theorem dX9_isSameWord_47 : decode cX9_isSameWord 47 = .ok (.iload_n 1, 1) := by decide +kernel
theorem dX9_isSameWord_48 : decode cX9_isSameWord 48 = .ok (.iload_n 3, 1) := by decide +kernel
theorem dX9_isSameWord_49 : decode cX9_isSameWord 49 = .ok (.iadd, 1) := by decide +kernel
theorem dX9_isSameWord_50 : decode cX9_isSameWord 50 = .ok (.baload, 1) := by decide +kernel
theorem dX9_isSameWord_51 : decode cX9_isSameWord 51 = .ok (.aload_n 0, 1) := by decide +kernel
theorem dX9_isSameWord_52 : decode cX9_isSameWord 52 = .ok (.getfield 18, 3) := by decide +kernel
theorem dX9_isSameWord_55 : decode cX9_isSameWord 55 = .ok (.aload_n 0, 1) := by decide +kernel
theorem dX9_isSameWord_56 : decode cX9_isSameWord 56 = .ok (.getfield 39, 3) := by decide +kernel
theorem dX9_isSameWord_59 : decode cX9_isSameWord 59 = .ok (.iload_n 3, 1) := by decide +kernel
theorem dX9_isSameWord_60 : decode cX9_isSameWord 60 = .ok (.iadd, 1) := by decide +kernel
theorem dX9_isSameWord_61 : decode cX9_isSameWord 61 = .ok (.baload, 1) := by decide +kernel
theorem dX9_isSameWord_62 : decode cX9_isSameWord 62 = .ok (.if_icmp .eq 5, 3) := by decide +kernel
theorem dX9_isSameWord_65 : decode cX9_isSameWord 65 = .ok (.iconst 0, 1) := by decide +kernel
theorem dX9_isSameWord_66 : decode cX9_isSameWord 66 = .ok (.ireturn, 1) := by decide +kernel
theorem dX9_isSameWord_67 : decode cX9_isSameWord 67 = .ok (.iinc 3 1, 3) := by decide +kernel
theorem dX9_isSameWord_70 : decode cX9_isSameWord 70 = .ok (.goto (-51), 3) := by decide +kernel
theorem dX9_isSameWord_73 : decode cX9_isSameWord 73 = .ok (.iconst 1, 1) := by decide +kernel
theorem dX9_isSameWord_74 : decode cX9_isSameWord 74 = .ok (.ireturn, 1) := by decide +kernel
theorem dX9_needWord_0 : decode cX9_needWord 0 = .ok (.aload_n 0, 1) := by decide +kernel
theorem dX9_needWord_1 : decode cX9_needWord 1 = .ok (.invokevirtual 58, 3) := by decide +kernel
theorem dX9_needWord_4 : decode cX9_needWord 4 = .ok (.aload_n 0, 1) := by decide +kernel
theorem dX9_needWord_5 : decode cX9_needWord 5 = .ok (.getfield 9, 3) := by decide +kernel
theorem dX9_needWord_8 : decode cX9_needWord 8 = .ok (.ifCond .ne 32, 3) := by decide +kernel
theorem dX9_needWord_11 : decode cX9_needWord 11 = .ok (.aload_n 0, 1) := by decide +kernel
theorem dX9_needWord_12 : decode cX9_needWord 12 = .ok (.invokevirtual 61, 3) := by decide +kernel
theorem dX9_needWord_15 : decode cX9_needWord 15 = .ok (.aload_n 0, 1) := by decide +kernel
theorem dX9_needWord_16 : decode cX9_needWord 16 = .ok (.aload_n 1, 1) := by decide +kernel
theorem dX9_needWord_17 : decode cX9_needWord 17 = .ok (.invokevirtual 64, 3) := by decide +kernel
theorem dX9_needWord_20 : decode cX9_needWord 20 = .ok (.ifCond .ne 20, 3) := by decide +kernel
theorem dX9_needWord_23 : decode cX9_needWord 23 = .ok (.aload_n 0, 1) := by decide +kernel
theorem dX9_needWord_24 : decode cX9_needWord 24 = .ok (.aload_n 2, 1) := by decide +kernel
theorem dX9_needWord_25 : decode cX9_needWord 25 = .ok (.invokevirtual 64, 3) := by decide +kernel
theorem dX9_needWord_28 : decode cX9_needWord 28 = .ok (.ifCond .ne 12, 3) := by decide +kernel
theorem dX9_needWord_31 : decode cX9_needWord 31 = .ok (.aload_n 0, 1) := by decide +kernel
theorem dX9_needWord_32 : decode cX9_needWord 32 = .ok (.iconst 1, 1) := by decide +kernel
theorem dX9_needWord_33 : decode cX9_needWord 33 = .ok (.aload_n 0, 1) := by decide +kernel
theorem dX9_needWord_34 : decode cX9_needWord 34 = .ok (.getfield 39, 3) := by decide +kernel
theorem dX9_needWord_37 : decode cX9_needWord 37 = .ok (.invokevirtual 31, 3) := by decide +kernel
theorem dX9_needWord_40 : decode cX9_needWord 40 = .ok (.return_, 1) := by decide +kernel
theorem dX9_needName_0 : decode cX9_needName 0 = .ok (.aload_n 0, 1) := by decide +kernel
theorem dX9_needName_1 : decode cX9_needName 1 = .ok (.invokevirtual 58, 3) := by decide +kernel
theorem dX9_needName_4 : decode cX9_needName 4 = .ok (.aload_n 0, 1) := by decide +kernel
theorem dX9_needName_5 : decode cX9_needName 5 = .ok (.getfield 9, 3) := by decide +kernel
theorem dX9_needName_8 : decode cX9_needName 8 = .ok (.ifCond .ne 77, 3) := by decide +kernel
theorem dX9_needName_11 : decode cX9_needName 11 = .ok (.aload_n 0, 1) := by decide +kernel
theorem dX9_needName_12 : decode cX9_needName 12 = .ok (.aload_n 0, 1) := by decide +kernel
theorem dX9_needName_13 : decode cX9_needName 13 = .ok (.getfield 25, 3) := by decide +kernel
theorem dX9_needName_16 : decode cX9_needName 16 = .ok (.putfield 39, 3) := by decide +kernel
theorem dX9_needName_19 : decode cX9_needName 19 = .ok (.iconst 0, 1) := by decide +kernel
theorem dX9_needName_20 : decode cX9_needName 20 = .ok (.istore_n 1, 1) := by decide +kernel
theorem dX9_needName_21 : decode cX9_needName 21 = .ok (.iload_n 1, 1) := by decide +kernel
theorem dX9_needName_22 : decode cX9_needName 22 = .ok (.bipush 6, 2) := by decide +kernel
theorem dX9_needName_24 : decode cX9_needName 24 = .ok (.if_icmp .ge 26, 3) := by decide +kernel
theorem dX9_needName_27 : decode cX9_needName 27 = .ok (.aload_n 0, 1) := by decide +kernel
theorem dX9_needName_28 : decode cX9_needName 28 = .ok (.invokevirtual 42, 3) := by decide +kernel
theorem dX9_needName_31 : decode cX9_needName 31 = .ok (.ifCond .eq 19, 3) := by decide +kernel
theorem dX9_needName_34 : decode cX9_needName 34 = .ok (.aload_n 0, 1) := by decide +kernel
