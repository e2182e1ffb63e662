theorem dX11_quarrels_48 : decode cX11_quarrels 48 = .ok (.getfield 65, 3) := by decide +kernel
theorem dX11_quarrels_51 : decode cX11_quarrels 51 = .ok (.getfield 353, 3) := by decide +kernel
theorem dX11_quarrels_54 : decode cX11_quarrels 54 = .ok (.iload_n 3, 1) := by decide +kernel
theorem dX11_quarrels_55 : decode cX11_quarrels 55 = .ok (.iaload, 1) := by decide +kernel
theorem dX11_quarrels_56 : decode cX11_quarrels 56 = .ok (.ireturn, 1) := by decide +kernel
theorem dX11_likely_0 : decode cX11_likely 0 = .ok (.aload_n 0, 1) := by decide +kernel
theorem dX11_likely_1 : decode cX11_likely 1 = .ok (.getfield 65, 3) := by decide +kernel
theorem dX11_likely_4 : decode cX11_likely 4 = .ok (.iload_n 1, 1) := by decide +kernel
theorem dX11_likely_5 : decode cX11_likely 5 = .ok (.invokevirtual 346, 3) := by decide +kernel
theorem dX11_likely_8 : decode cX11_likely 8 = .ok (.istore_n 2, 1) := by decide +kernel
theorem dX11_likely_9 : decode cX11_likely 9 = .ok (.iload_n 2, 1) := by decide +kernel
theorem dX11_likely_10 : decode cX11_likely 10 = .ok (.ifCond .lt 17, 3) := by decide +kernel
theorem dX11_likely_13 : decode cX11_likely 13 = .ok (.aload_n 0, 1) := by decide +kernel
theorem dX11_likely_14 : decode cX11_likely 14 = .ok (.getfield 51, 3) := by decide +kernel
theorem dX11_likely_17 : decode cX11_likely 17 = .ok (.aload_n 0, 1) := by decide +kernel
theorem dX11_likely_18 : decode cX11_likely 18 = .ok (.getfield 35, 3) := by decide +kernel
theorem dX11_likely_21 : decode cX11_likely 21 = .ok (.invokevirtual 290, 3) := by decide +kernel
theorem dX11_likely_24 : decode cX11_likely 24 = .ok (.ifCond .ne 5, 3) := by decide +kernel
theorem dX11_likely_27 : decode cX11_likely 27 = .ok (.iconst (-1), 1) := by decide +kernel
theorem dX11_likely_28 : decode cX11_likely 28 = .ok (.ireturn, 1) := by decide +kernel
theorem dX11_likely_29 : decode cX11_likely 29 = .ok (.iconst 0, 1) := by decide +kernel
theorem dX11_likely_30 : decode cX11_likely 30 = .ok (.istore_n 3, 1) := by decide +kernel
theorem dX11_likely_31 : decode cX11_likely 31 = .ok (.bipush 101, 2) := by decide +kernel
theorem dX11_likely_33 : decode cX11_likely 33 = .ok (.istore 4, 2) := by decide +kernel
theorem dX11_likely_35 : decode cX11_likely 35 = .ok (.iconst 0, 1) := by decide +kernel
theorem dX11_likely_36 : decode cX11_likely 36 = .ok (.istore 5, 2) := by decide +kernel
theorem dX11_likely_38 : decode cX11_likely 38 = .ok (.iload 5, 2) := by decide +kernel
theorem dX11_likely_40 : decode cX11_likely 40 = .ok (.aload_n 0, 1) := by decide +kernel
theorem dX11_likely_41 : decode cX11_likely 41 = .ok (.getfield 51, 3) := by decide +kernel
theorem dX11_likely_44 : decode cX11_likely 44 = .ok (.invokevirtual 294, 3) := by decide +kernel
theorem dX11_likely_47 : decode cX11_likely 47 = .ok (.if_icmp .ge 62, 3) := by decide +kernel
theorem dX11_likely_50 : decode cX11_likely 50 = .ok (.aload_n 0, 1) := by decide +kernel
theorem dX11_likely_51 : decode cX11_likely 51 = .ok (.getfield 44, 3) := by decide +kernel
theorem dX11_likely_54 : decode cX11_likely 54 = .ok (.aload_n 0, 1) := by decide +kernel
theorem dX11_likely_55 : decode cX11_likely 55 = .ok (.getfield 51, 3) := by decide +kernel
theorem dX11_likely_58 : decode cX11_likely 58 = .ok (.iload 5, 2) := by decide +kernel
theorem dX11_likely_60 : decode cX11_likely 60 = .ok (.invokevirtual 300, 3) := by decide +kernel
theorem dX11_likely_63 : decode cX11_likely 63 = .ok (.aload_n 0, 1) := by decide +kernel
theorem dX11_likely_64 : decode cX11_likely 64 = .ok (.getfield 65, 3) := by decide +kernel
theorem dX11_likely_67 : decode cX11_likely 67 = .ok (.aload_n 0, 1) := by decide +kernel
theorem dX11_likely_68 : decode cX11_likely 68 = .ok (.getfield 44, 3) := by decide +kernel
theorem dX11_likely_71 : decode cX11_likely 71 = .ok (.iload_n 2, 1) := by decide +kernel
theorem dX11_likely_72 : decode cX11_likely 72 = .ok (.invokevirtual 349, 3) := by decide +kernel
theorem dX11_likely_75 : decode cX11_likely 75 = .ok (.aload_n 0, 1) := by decide +kernel
theorem dX11_likely_76 : decode cX11_likely 76 = .ok (.getfield 65, 3) := by decide +kernel
theorem dX11_likely_79 : decode cX11_likely 79 = .ok (.getfield 353, 3) := by decide +kernel
theorem dX11_likely_82 : decode cX11_likely 82 = .ok (.iload_n 2, 1) := by decide +kernel
theorem dX11_likely_83 : decode cX11_likely 83 = .ok (.iaload, 1) := by decide +kernel
theorem dX11_likely_84 : decode cX11_likely 84 = .ok (.iload 4, 2) := by decide +kernel
theorem dX11_likely_86 : decode cX11_likely 86 = .ok (.if_icmp .ge 17, 3) := by decide +kernel
theorem dX11_likely_89 : decode cX11_likely 89 = .ok (.aload_n 0, 1) := by decide +kernel
theorem dX11_likely_90 : decode cX11_likely 90 = .ok (.getfield 65, 3) := by decide +kernel
theorem dX11_likely_93 : decode cX11_likely 93 = .ok (.getfield 353, 3) := by decide +kernel
theorem dX11_likely_96 : decode cX11_likely 96 = .ok (.iload_n 2, 1) := by decide +kernel
theorem dX11_likely_97 : decode cX11_likely 97 = .ok (.iaload, 1) := by decide +kernel
theorem dX11_likely_98 : decode cX11_likely 98 = .ok (.istore 4, 2) := by decide +kernel
theorem dX11_likely_100 : decode cX11_likely 100 = .ok (.iload 5, 2) := by decide +kernel
theorem dX11_likely_102 : decode cX11_likely 102 = .ok (.istore_n 3, 1) := by decide +kernel
theorem dX11_likely_103 : decode cX11_likely 103 = .ok (.iinc 5 1, 3) := by decide +kernel
theorem dX11_likely_106 : decode cX11_likely 106 = .ok (.goto (-68), 3) := by decide +kernel
theorem dX11_likely_109 : decode cX11_likely 109 = .ok (.iload_n 3, 1) := by decide +kernel
theorem dX11_likely_110 : decode cX11_likely 110 = .ok (.ireturn, 1) := by decide +kernel
theorem dX11_since_0 : decode cX11_since 0 = .ok (.aload_n 0, 1) := by decide +kernel
theorem dX11_since_1 : decode cX11_since 1 = .ok (.getfield 51, 3) := by decide +kernel
theorem dX11_since_4 : decode cX11_since 4 = .ok (.aload_n 0, 1) := by decide +kernel
theorem dX11_since_5 : decode cX11_since 5 = .ok (.getfield 35, 3) := by decide +kernel
theorem dX11_since_8 : decode cX11_since 8 = .ok (.invokevirtual 290, 3) := by decide +kernel
theorem dX11_since_11 : decode cX11_since 11 = .ok (.ifCond .ne 5, 3) := by decide +kernel
theorem dX11_since_14 : decode cX11_since 14 = .ok (.iconst (-1), 1) := by decide +kernel
theorem dX11_since_15 : decode cX11_since 15 = .ok (.ireturn, 1) := by decide +kernel
theorem dX11_since_16 : decode cX11_since 16 = .ok (.aload_n 0, 1) := by decide +kernel
theorem dX11_since_17 : decode cX11_since 17 = .ok (.getfield 65, 3) := by decide +kernel
theorem dX11_since_20 : decode cX11_since 20 = .ok (.invokevirtual 356, 3) := by decide +kernel
theorem dX11_since_23 : decode cX11_since 23 = .ok (.iconst 0, 1) := by decide +kernel
theorem dX11_since_24 : decode cX11_since 24 = .ok (.istore_n 1, 1) := by decide +kernel
theorem dX11_since_25 : decode cX11_since 25 = .ok (.iload_n 1, 1) := by decide +kernel
theorem dX11_since_26 : decode cX11_since 26 = .ok (.aload_n 0, 1) := by decide +kernel
theorem dX11_since_27 : decode cX11_since 27 = .ok (.getfield 51, 3) := by decide +kernel
theorem dX11_since_30 : decode cX11_since 30 = .ok (.invokevirtual 294, 3) := by decide +kernel
theorem dX11_since_33 : decode cX11_since 33 = .ok (.if_icmp .ge 47, 3) := by decide +kernel
theorem dX11_since_36 : decode cX11_since 36 = .ok (.aload_n 0, 1) := by decide +kernel
theorem dX11_since_37 : decode cX11_since 37 = .ok (.getfield 44, 3) := by decide +kernel
theorem dX11_since_40 : decode cX11_since 40 = .ok (.aload_n 0, 1) := by decide +kernel
theorem dX11_since_41 : decode cX11_since 41 = .ok (.getfield 51, 3) := by decide +kernel
theorem dX11_since_44 : decode cX11_since 44 = .ok (.iload_n 1, 1) := by decide +kernel
theorem dX11_since_45 : decode cX11_since 45 = .ok (.invokevirtual 300, 3) := by decide +kernel
theorem dX11_since_48 : decode cX11_since 48 = .ok (.aload_n 0, 1) := by decide +kernel
theorem dX11_since_49 : decode cX11_since 49 = .ok (.getfield 65, 3) := by decide +kernel
theorem dX11_since_52 : decode cX11_since 52 = .ok (.aload_n 0, 1) := by decide +kernel
theorem dX11_since_53 : decode cX11_since 53 = .ok (.getfield 44, 3) := by decide +kernel
theorem dX11_since_56 : decode cX11_since 56 = .ok (.aload_n 0, 1) := by decide +kernel
theorem dX11_since_57 : decode cX11_since 57 = .ok (.getfield 65, 3) := by decide +kernel
theorem dX11_since_60 : decode cX11_since 60 = .ok (.getfield 359, 3) := by decide +kernel
theorem dX11_since_63 : decode cX11_since 63 = .ok (.invokevirtual 349, 3) := by decide +kernel
theorem dX11_since_66 : decode cX11_since 66 = .ok (.aload_n 0, 1) := by decide +kernel
theorem dX11_since_67 : decode cX11_since 67 = .ok (.getfield 65, 3) := by decide +kernel
theorem dX11_since_70 : decode cX11_since 70 = .ok (.iload_n 1, 1) := by decide +kernel
theorem dX11_since_71 : decode cX11_since 71 = .ok (.invokevirtual 362, 3) := by decide +kernel
theorem dX11_since_74 : decode cX11_since 74 = .ok (.iinc 1 1, 3) := by decide +kernel
theorem dX11_since_77 : decode cX11_since 77 = .ok (.goto (-52), 3) := by decide +kernel
theorem dX11_since_80 : decode cX11_since 80 = .ok (.aload_n 0, 1) := by decide +kernel
theorem dX11_since_81 : decode cX11_since 81 = .ok (.getfield 65, 3) := by decide +kernel
theorem dX11_since_84 : decode cX11_since 84 = .ok (.invokevirtual 365, 3) := by decide +kernel
theorem dX11_since_87 : decode cX11_since 87 = .ok (.ireturn, 1) := by decide +kernel
theorem dX11_all_0 : decode cX11_all 0 = .ok (.iload_n 1, 1) := by decide +kernel
theorem dX11_all_1 : decode cX11_all 1 = .ok (.tableswitch 96 0 5 #[39, 50, 61, 72, 80, 88], 39) := by decide +kernel
theorem dX11_all_40 : decode cX11_all 40 = .ok (.aload_n 0, 1) := by decide +kernel
theorem dX11_all_41 : decode cX11_all 41 = .ok (.getfield 35, 3) := by decide +kernel
theorem dX11_all_44 : decode cX11_all 44 = .ok (.getfield 126, 3) := by decide +kernel
theorem dX11_all_47 : decode cX11_all 47 = .ok (.invokestatic 368, 3) := by decide +kernel
theorem dX11_all_50 : decode cX11_all 50 = .ok (.ireturn, 1) := by decide +kernel
theorem dX11_all_51 : decode cX11_all 51 = .ok (.aload_n 0, 1) := by decide +kernel
theorem dX11_all_52 : decode cX11_all 52 = .ok (.getfield 35, 3) := by decide +kernel
theorem dX11_all_55 : decode cX11_all 55 = .ok (.getfield 137, 3) := by decide +kernel
theorem dX11_all_58 : decode cX11_all 58 = .ok (.invokestatic 368, 3) := by decide +kernel
theorem dX11_all_61 : decode cX11_all 61 = .ok (.ireturn, 1) := by decide +kernel
theorem dX11_all_62 : decode cX11_all 62 = .ok (.aload_n 0, 1) := by decide +kernel
theorem dX11_all_63 : decode cX11_all 63 = .ok (.getfield 35, 3) := by decide +kernel
theorem dX11_all_66 : decode cX11_all 66 = .ok (.getfield 147, 3) := by decide +kernel
theorem dX11_all_69 : decode cX11_all 69 = .ok (.invokestatic 368, 3) := by decide +kernel
theorem dX11_all_72 : decode cX11_all 72 = .ok (.ireturn, 1) := by decide +kernel
theorem dX11_all_73 : decode cX11_all 73 = .ok (.aload_n 0, 1) := by decide +kernel
theorem dX11_all_74 : decode cX11_all 74 = .ok (.getfield 65, 3) := by decide +kernel
theorem dX11_all_77 : decode cX11_all 77 = .ok (.getfield 359, 3) := by decide +kernel
theorem dX11_all_80 : decode cX11_all 80 = .ok (.ireturn, 1) := by decide +kernel
theorem dX11_all_81 : decode cX11_all 81 = .ok (.aload_n 0, 1) := by decide +kernel
theorem dX11_all_82 : decode cX11_all 82 = .ok (.getfield 51, 3) := by decide +kernel
theorem dX11_all_85 : decode cX11_all 85 = .ok (.invokevirtual 294, 3) := by decide +kernel
theorem dX11_all_88 : decode cX11_all 88 = .ok (.ireturn, 1) := by decide +kernel
theorem dX11_all_89 : decode cX11_all 89 = .ok (.aload_n 0, 1) := by decide +kernel
theorem dX11_all_90 : decode cX11_all 90 = .ok (.getfield 28, 3) := by decide +kernel
theorem dX11_all_93 : decode cX11_all 93 = .ok (.getfield 237, 3) := by decide +kernel
theorem dX11_all_96 : decode cX11_all 96 = .ok (.ireturn, 1) := by decide +kernel
theorem dX11_all_97 : decode cX11_all 97 = .ok (.iconst (-1), 1) := by decide +kernel
theorem dX11_all_98 : decode cX11_all 98 = .ok (.ireturn, 1) := by decide +kernel
theorem dX11_meetsPane_0 : decode cX11_meetsPane 0 = .ok (.aload_n 0, 1) := by decide +kernel
theorem dX11_meetsPane_1 : decode cX11_meetsPane 1 = .ok (.getfield 35, 3) := by decide +kernel
theorem dX11_meetsPane_4 : decode cX11_meetsPane 4 = .ok (.iload_n 1, 1) := by decide +kernel
theorem dX11_meetsPane_5 : decode cX11_meetsPane 5 = .ok (.invokevirtual 191, 3) := by decide +kernel
theorem dX11_meetsPane_8 : decode cX11_meetsPane 8 = .ok (.ifCond .eq 11, 3) := by decide +kernel
theorem dX11_meetsPane_11 : decode cX11_meetsPane 11 = .ok (.iload_n 2, 1) := by decide +kernel
theorem dX11_meetsPane_12 : decode cX11_meetsPane 12 = .ok (.iload_n 3, 1) := by decide +kernel
theorem dX11_meetsPane_13 : decode cX11_meetsPane 13 = .ok (.invokestatic 157, 3) := by decide +kernel
theorem dX11_meetsPane_16 : decode cX11_meetsPane 16 = .ok (.ifCond .ne 5, 3) := by decide +kernel
theorem dX11_meetsPane_19 : decode cX11_meetsPane 19 = .ok (.iconst 0, 1) := by decide +kernel
theorem dX11_meetsPane_20 : decode cX11_meetsPane 20 = .ok (.ireturn, 1) := by decide +kernel
theorem dX11_meetsPane_21 : decode cX11_meetsPane 21 = .ok (.aload_n 0, 1) := by decide +kernel
theorem dX11_meetsPane_22 : decode cX11_meetsPane 22 = .ok (.getfield 44, 3) := by decide +kernel
theorem dX11_meetsPane_25 : decode cX11_meetsPane 25 = .ok (.invokevirtual 162, 3) := by decide +kernel
theorem dX11_meetsPane_28 : decode cX11_meetsPane 28 = .ok (.aload_n 0, 1) := by decide +kernel
theorem dX11_meetsPane_29 : decode cX11_meetsPane 29 = .ok (.getfield 44, 3) := by decide +kernel
theorem dX11_meetsPane_32 : decode cX11_meetsPane 32 = .ok (.getfield 165, 3) := by decide +kernel
theorem dX11_meetsPane_35 : decode cX11_meetsPane 35 = .ok (.ldc2_w 169, 3) := by decide +kernel
theorem dX11_meetsPane_38 : decode cX11_meetsPane 38 = .ok (.aload_n 0, 1) := by decide +kernel
theorem dX11_meetsPane_39 : decode cX11_meetsPane 39 = .ok (.getfield 35, 3) := by decide +kernel
theorem dX11_meetsPane_42 : decode cX11_meetsPane 42 = .ok (.getfield 130, 3) := by decide +kernel
theorem dX11_meetsPane_45 : decode cX11_meetsPane 45 = .ok (.iload_n 1, 1) := by decide +kernel
theorem dX11_meetsPane_46 : decode cX11_meetsPane 46 = .ok (.iaload, 1) := by decide +kernel
theorem dX11_meetsPane_47 : decode cX11_meetsPane 47 = .ok (.i2l, 1) := by decide +kernel
theorem dX11_meetsPane_48 : decode cX11_meetsPane 48 = .ok (.lmul, 1) := by decide +kernel
theorem dX11_meetsPane_49 : decode cX11_meetsPane 49 = .ok (.ldc2_w 169, 3) := by decide +kernel
theorem dX11_meetsPane_52 : decode cX11_meetsPane 52 = .ok (.aload_n 0, 1) := by decide +kernel
theorem dX11_meetsPane_53 : decode cX11_meetsPane 53 = .ok (.getfield 35, 3) := by decide +kernel
theorem dX11_meetsPane_56 : decode cX11_meetsPane 56 = .ok (.getfield 134, 3) := by decide +kernel
theorem dX11_meetsPane_59 : decode cX11_meetsPane 59 = .ok (.iload_n 1, 1) := by decide +kernel
theorem dX11_meetsPane_60 : decode cX11_meetsPane 60 = .ok (.iaload, 1) := by decide +kernel
theorem dX11_meetsPane_61 : decode cX11_meetsPane 61 = .ok (.i2l, 1) := by decide +kernel
theorem dX11_meetsPane_62 : decode cX11_meetsPane 62 = .ok (.lmul, 1) := by decide +kernel
theorem dX11_meetsPane_63 : decode cX11_meetsPane 63 = .ok (.ldc2_w 169, 3) := by decide +kernel
theorem dX11_meetsPane_66 : decode cX11_meetsPane 66 = .ok (.iload_n 2, 1) := by decide +kernel
theorem dX11_meetsPane_67 : decode cX11_meetsPane 67 = .ok (.i2l, 1) := by decide +kernel
theorem dX11_meetsPane_68 : decode cX11_meetsPane 68 = .ok (.lmul, 1) := by decide +kernel
theorem dX11_meetsPane_69 : decode cX11_meetsPane 69 = .ok (.ldc2_w 169, 3) := by decide +kernel
theorem dX11_meetsPane_72 : decode cX11_meetsPane 72 = .ok (.iload_n 3, 1) := by decide +kernel
theorem dX11_meetsPane_73 : decode cX11_meetsPane 73 = .ok (.i2l, 1) := by decide +kernel
theorem dX11_meetsPane_74 : decode cX11_meetsPane 74 = .ok (.lmul, 1) := by decide +kernel
theorem dX11_meetsPane_75 : decode cX11_meetsPane 75 = .ok (.invokevirtual 372, 3) := by decide +kernel
theorem dX11_meetsPane_78 : decode cX11_meetsPane 78 = .ok (.ireturn, 1) := by decide +kernel
theorem dX11_canTry_0 : decode cX11_canTry 0 = .ok (.iload_n 1, 1) := by decide +kernel
theorem dX11_canTry_1 : decode cX11_canTry 1 = .ok (.ifCond .lt 32, 3) := by decide +kernel
theorem dX11_canTry_4 : decode cX11_canTry 4 = .ok (.iload_n 1, 1) := by decide +kernel
theorem dX11_canTry_5 : decode cX11_canTry 5 = .ok (.aload_n 0, 1) := by decide +kernel
theorem dX11_canTry_6 : decode cX11_canTry 6 = .ok (.getfield 51, 3) := by decide +kernel
theorem dX11_canTry_9 : decode cX11_canTry 9 = .ok (.invokevirtual 294, 3) := by decide +kernel
theorem dX11_canTry_12 : decode cX11_canTry 12 = .ok (.if_icmp .ge 21, 3) := by decide +kernel
theorem dX11_canTry_15 : decode cX11_canTry 15 = .ok (.aload_n 0, 1) := by decide +kernel
theorem dX11_canTry_16 : decode cX11_canTry 16 = .ok (.getfield 51, 3) := by decide +kernel
theorem dX11_canTry_19 : decode cX11_canTry 19 = .ok (.aload_n 0, 1) := by decide +kernel
theorem dX11_canTry_20 : decode cX11_canTry 20 = .ok (.getfield 35, 3) := by decide +kernel
theorem dX11_canTry_23 : decode cX11_canTry 23 = .ok (.invokevirtual 290, 3) := by decide +kernel
theorem dX11_canTry_26 : decode cX11_canTry 26 = .ok (.ifCond .eq 7, 3) := by decide +kernel
theorem dX11_canTry_29 : decode cX11_canTry 29 = .ok (.iconst 1, 1) := by decide +kernel
theorem dX11_canTry_30 : decode cX11_canTry 30 = .ok (.goto 4, 3) := by decide +kernel
theorem dX11_canTry_33 : decode cX11_canTry 33 = .ok (.iconst 0, 1) := by decide +kernel
theorem dX11_canTry_34 : decode cX11_canTry 34 = .ok (.ireturn, 1) := by decide +kernel
theorem dX11_takeAway_0 : decode cX11_takeAway 0 = .ok (.iload_n 1, 1) := by decide +kernel
theorem dX11_takeAway_1 : decode cX11_takeAway 1 = .ok (.ifCond .lt 15, 3) := by decide +kernel
theorem dX11_takeAway_4 : decode cX11_takeAway 4 = .ok (.iload_n 1, 1) := by decide +kernel
theorem dX11_takeAway_5 : decode cX11_takeAway 5 = .ok (.aload_n 0, 1) := by decide +kernel
theorem dX11_takeAway_6 : decode cX11_takeAway 6 = .ok (.arraylength, 1) := by decide +kernel
theorem dX11_takeAway_7 : decode cX11_takeAway 7 = .ok (.if_icmp .ge 9, 3) := by decide +kernel
theorem dX11_takeAway_10 : decode cX11_takeAway 10 = .ok (.aload_n 0, 1) := by decide +kernel
theorem dX11_takeAway_11 : decode cX11_takeAway 11 = .ok (.iload_n 1, 1) := by decide +kernel
theorem dX11_takeAway_12 : decode cX11_takeAway 12 = .ok (.baload, 1) := by decide +kernel
theorem dX11_takeAway_13 : decode cX11_takeAway 13 = .ok (.ifCond .ne 5, 3) := by decide +kernel
theorem dX11_takeAway_16 : decode cX11_takeAway 16 = .ok (.iconst 0, 1) := by decide +kernel
theorem dX11_takeAway_17 : decode cX11_takeAway 17 = .ok (.ireturn, 1) := by decide +kernel
theorem dX11_takeAway_18 : decode cX11_takeAway 18 = .ok (.aload_n 0, 1) := by decide +kernel
theorem dX11_takeAway_19 : decode cX11_takeAway 19 = .ok (.iload_n 1, 1) := by decide +kernel
theorem dX11_takeAway_20 : decode cX11_takeAway 20 = .ok (.iconst 0, 1) := by decide +kernel
theorem dX11_takeAway_21 : decode cX11_takeAway 21 = .ok (.bastore, 1) := by decide +kernel
theorem dX11_takeAway_22 : decode cX11_takeAway 22 = .ok (.iconst 1, 1) := by decide +kernel
theorem dX11_takeAway_23 : decode cX11_takeAway 23 = .ok (.ireturn, 1) := by decide +kernel
theorem dX11_howMany_0 : decode cX11_howMany 0 = .ok (.iconst 0, 1) := by decide +kernel
theorem dX11_howMany_1 : decode cX11_howMany 1 = .ok (.istore_n 1, 1) := by decide +kernel
theorem dX11_howMany_2 : decode cX11_howMany 2 = .ok (.iconst 0, 1) := by decide +kernel
theorem dX11_howMany_3 : decode cX11_howMany 3 = .ok (.istore_n 2, 1) := by decide +kernel
theorem dX11_howMany_4 : decode cX11_howMany 4 = .ok (.iload_n 2, 1) := by decide +kernel
theorem dX11_howMany_5 : decode cX11_howMany 5 = .ok (.aload_n 0, 1) := by decide +kernel
theorem dX11_howMany_6 : decode cX11_howMany 6 = .ok (.arraylength, 1) := by decide +kernel
theorem dX11_howMany_7 : decode cX11_howMany 7 = .ok (.if_icmp .ge 18, 3) := by decide +kernel
theorem dX11_howMany_10 : decode cX11_howMany 10 = .ok (.aload_n 0, 1) := by decide +kernel
theorem dX11_howMany_11 : decode cX11_howMany 11 = .ok (.iload_n 2, 1) := by decide +kernel
theorem dX11_howMany_12 : decode cX11_howMany 12 = .ok (.baload, 1) := by decide +kernel
theorem dX11_howMany_13 : decode cX11_howMany 13 = .ok (.ifCond .eq 6, 3) := by decide +kernel
theorem dX11_howMany_16 : decode cX11_howMany 16 = .ok (.iinc 1 1, 3) := by decide +kernel
theorem dX11_howMany_19 : decode cX11_howMany 19 = .ok (.iinc 2 1, 3) := by decide +kernel
theorem dX11_howMany_22 : decode cX11_howMany 22 = .ok (.goto (-18), 3) := by decide +kernel
theorem dX11_howMany_25 : decode cX11_howMany 25 = .ok (.iload_n 1, 1) := by decide +kernel
theorem dX11_howMany_26 : decode cX11_howMany 26 = .ok (.ireturn, 1) := by decide +kernel
theorem dX11_bit_0 : decode cX11_bit 0 = .ok (.iload_n 0, 1) := by decide +kernel
theorem dX11_bit_1 : decode cX11_bit 1 = .ok (.ifCond .eq 7, 3) := by decide +kernel
theorem dX11_bit_4 : decode cX11_bit 4 = .ok (.iconst 1, 1) := by decide +kernel
theorem dX11_bit_5 : decode cX11_bit 5 = .ok (.goto 4, 3) := by decide +kernel
theorem dX11_bit_8 : decode cX11_bit 8 = .ok (.iconst 0, 1) := by decide +kernel
theorem dX11_bit_9 : decode cX11_bit 9 = .ok (.ireturn, 1) := by decide +kernel
theorem dX11_within_0 : decode cX11_within 0 = .ok (.iload_n 0, 1) := by decide +kernel
theorem dX11_within_1 : decode cX11_within 1 = .ok (.iload_n 1, 1) := by decide +kernel
theorem dX11_within_2 : decode cX11_within 2 = .ok (.if_icmp .lt 12, 3) := by decide +kernel
theorem dX11_within_5 : decode cX11_within 5 = .ok (.iload_n 0, 1) := by decide +kernel
theorem dX11_within_6 : decode cX11_within 6 = .ok (.iload_n 2, 1) := by decide +kernel
theorem dX11_within_7 : decode cX11_within 7 = .ok (.if_icmp .gt 7, 3) := by decide +kernel
theorem dX11_within_10 : decode cX11_within 10 = .ok (.iconst 1, 1) := by decide +kernel
theorem dX11_within_11 : decode cX11_within 11 = .ok (.goto 4, 3) := by decide +kernel
theorem dX11_within_14 : decode cX11_within 14 = .ok (.iconst 0, 1) := by decide +kernel
theorem dX11_within_15 : decode cX11_within 15 = .ok (.ireturn, 1) := by decide +kernel
theorem dX11_isPlace_0 : decode cX11_isPlace 0 = .ok (.iload_n 0, 1) := by decide +kernel
theorem dX11_isPlace_1 : decode cX11_isPlace 1 = .ok (.bipush (-100), 2) := by decide +kernel
theorem dX11_isPlace_3 : decode cX11_isPlace 3 = .ok (.bipush 100, 2) := by decide +kernel
theorem dX11_isPlace_5 : decode cX11_isPlace 5 = .ok (.invokestatic 109, 3) := by decide +kernel
theorem dX11_isPlace_8 : decode cX11_isPlace 8 = .ok (.ifCond .eq 18, 3) := by decide +kernel
theorem dX11_isPlace_11 : decode cX11_isPlace 11 = .ok (.iload_n 1, 1) := by decide +kernel
theorem dX11_isPlace_12 : decode cX11_isPlace 12 = .ok (.bipush (-100), 2) := by decide +kernel
theorem dX11_isPlace_14 : decode cX11_isPlace 14 = .ok (.bipush 100, 2) := by decide +kernel
theorem dX11_isPlace_16 : decode cX11_isPlace 16 = .ok (.invokestatic 109, 3) := by decide +kernel
theorem dX11_isPlace_19 : decode cX11_isPlace 19 = .ok (.ifCond .eq 7, 3) := by decide +kernel
theorem dX11_isPlace_22 : decode cX11_isPlace 22 = .ok (.iconst 1, 1) := by decide +kernel
theorem dX11_isPlace_23 : decode cX11_isPlace 23 = .ok (.goto 4, 3) := by decide +kernel
theorem dX11_isPlace_26 : decode cX11_isPlace 26 = .ok (.iconst 0, 1) := by decide +kernel
theorem dX11_isPlace_27 : decode cX11_isPlace 27 = .ok (.ireturn, 1) := by decide +kernel
theorem dX11_isFarPlace_0 : decode cX11_isFarPlace 0 = .ok (.iload_n 0, 1) := by decide +kernel
theorem dX11_isFarPlace_1 : decode cX11_isFarPlace 1 = .ok (.sipush (-200), 3) := by decide +kernel
theorem dX11_isFarPlace_4 : decode cX11_isFarPlace 4 = .ok (.sipush 200, 3) := by decide +kernel
theorem dX11_isFarPlace_7 : decode cX11_isFarPlace 7 = .ok (.invokestatic 109, 3) := by decide +kernel
theorem dX11_isFarPlace_10 : decode cX11_isFarPlace 10 = .ok (.ifCond .eq 20, 3) := by decide +kernel
theorem dX11_isFarPlace_13 : decode cX11_isFarPlace 13 = .ok (.iload_n 1, 1) := by decide +kernel
theorem dX11_isFarPlace_14 : decode cX11_isFarPlace 14 = .ok (.sipush (-200), 3) := by decide +kernel
theorem dX11_isFarPlace_17 : decode cX11_isFarPlace 17 = .ok (.sipush 200, 3) := by decide +kernel
theorem dX11_isFarPlace_20 : decode cX11_isFarPlace 20 = .ok (.invokestatic 109, 3) := by decide +kernel
theorem dX11_isFarPlace_23 : decode cX11_isFarPlace 23 = .ok (.ifCond .eq 7, 3) := by decide +kernel
theorem dX11_isFarPlace_26 : decode cX11_isFarPlace 26 = .ok (.iconst 1, 1) := by decide +kernel
theorem dX11_isFarPlace_27 : decode cX11_isFarPlace 27 = .ok (.goto 4, 3) := by decide +kernel
theorem dX11_isFarPlace_30 : decode cX11_isFarPlace 30 = .ok (.iconst 0, 1) := by decide +kernel
theorem dX11_isFarPlace_31 : decode cX11_isFarPlace 31 = .ok (.ireturn, 1) := by decide +kernel
theorem dX11_isStretch_0 : decode cX11_isStretch 0 = .ok (.iload_n 0, 1) := by decide +kernel
theorem dX11_isStretch_1 : decode cX11_isStretch 1 = .ok (.iload_n 1, 1) := by decide +kernel
theorem dX11_isStretch_2 : decode cX11_isStretch 2 = .ok (.invokestatic 122, 3) := by decide +kernel
theorem dX11_isStretch_5 : decode cX11_isStretch 5 = .ok (.ifCond .eq 25, 3) := by decide +kernel
theorem dX11_isStretch_8 : decode cX11_isStretch 8 = .ok (.iload_n 2, 1) := by decide +kernel
theorem dX11_isStretch_9 : decode cX11_isStretch 9 = .ok (.iload_n 3, 1) := by decide +kernel
theorem dX11_isStretch_10 : decode cX11_isStretch 10 = .ok (.invokestatic 122, 3) := by decide +kernel
theorem dX11_isStretch_13 : decode cX11_isStretch 13 = .ok (.ifCond .eq 17, 3) := by decide +kernel
theorem dX11_isStretch_16 : decode cX11_isStretch 16 = .ok (.iload_n 0, 1) := by decide +kernel
theorem dX11_isStretch_17 : decode cX11_isStretch 17 = .ok (.iload_n 2, 1) := by decide +kernel
theorem dX11_isStretch_18 : decode cX11_isStretch 18 = .ok (.if_icmp .ne 8, 3) := by decide +kernel
theorem dX11_isStretch_21 : decode cX11_isStretch 21 = .ok (.iload_n 1, 1) := by decide +kernel
theorem dX11_isStretch_22 : decode cX11_isStretch 22 = .ok (.iload_n 3, 1) := by decide +kernel
theorem dX11_isStretch_23 : decode cX11_isStretch 23 = .ok (.if_icmp .eq 7, 3) := by decide +kernel
theorem dX11_isStretch_26 : decode cX11_isStretch 26 = .ok (.iconst 1, 1) := by decide +kernel
theorem dX11_isStretch_27 : decode cX11_isStretch 27 = .ok (.goto 4, 3) := by decide +kernel
theorem dX11_isStretch_30 : decode cX11_isStretch 30 = .ok (.iconst 0, 1) := by decide +kernel
theorem dX11_isStretch_31 : decode cX11_isStretch 31 = .ok (.ireturn, 1) := by decide +kernel
theorem dX12_isIn_0 : decode cX12_isIn 0 = .ok (.iload_n 0, 1) := by decide +kernel
theorem dX12_isIn_1 : decode cX12_isIn 1 = .ok (.iload_n 1, 1) := by decide +kernel
theorem dX12_isIn_2 : decode cX12_isIn 2 = .ok (.if_icmp .lt 12, 3) := by decide +kernel
theorem dX12_isIn_5 : decode cX12_isIn 5 = .ok (.iload_n 0, 1) := by decide +kernel
theorem dX12_isIn_6 : decode cX12_isIn 6 = .ok (.iload_n 2, 1) := by decide +kernel
theorem dX12_isIn_7 : decode cX12_isIn 7 = .ok (.if_icmp .gt 7, 3) := by decide +kernel
theorem dX12_isIn_10 : decode cX12_isIn 10 = .ok (.iconst 1, 1) := by decide +kernel
theorem dX12_isIn_11 : decode cX12_isIn 11 = .ok (.goto 4, 3) := by decide +kernel
theorem dX12_isIn_14 : decode cX12_isIn 14 = .ok (.iconst 0, 1) := by decide +kernel
theorem dX12_isIn_15 : decode cX12_isIn 15 = .ok (.ireturn, 1) := by decide +kernel
theorem dX12_isPlace_0 : decode cX12_isPlace 0 = .ok (.iload_n 0, 1) := by decide +kernel
theorem dX12_isPlace_1 : decode cX12_isPlace 1 = .ok (.bipush (-100), 2) := by decide +kernel
theorem dX12_isPlace_3 : decode cX12_isPlace 3 = .ok (.bipush 100, 2) := by decide +kernel
theorem dX12_isPlace_5 : decode cX12_isPlace 5 = .ok (.invokestatic 3, 3) := by decide +kernel
theorem dX12_isPlace_8 : decode cX12_isPlace 8 = .ok (.ifCond .eq 18, 3) := by decide +kernel
theorem dX12_isPlace_11 : decode cX12_isPlace 11 = .ok (.iload_n 1, 1) := by decide +kernel
theorem dX12_isPlace_12 : decode cX12_isPlace 12 = .ok (.bipush (-100), 2) := by decide +kernel
theorem dX12_isPlace_14 : decode cX12_isPlace 14 = .ok (.bipush 100, 2) := by decide +kernel
theorem dX12_isPlace_16 : decode cX12_isPlace 16 = .ok (.invokestatic 3, 3) := by decide +kernel
theorem dX12_isPlace_19 : decode cX12_isPlace 19 = .ok (.ifCond .eq 7, 3) := by decide +kernel
theorem dX12_isPlace_22 : decode cX12_isPlace 22 = .ok (.iconst 1, 1) := by decide +kernel
theorem dX12_isPlace_23 : decode cX12_isPlace 23 = .ok (.goto 4, 3) := by decide +kernel
theorem dX12_isPlace_26 : decode cX12_isPlace 26 = .ok (.iconst 0, 1) := by decide +kernel
theorem dX12_isPlace_27 : decode cX12_isPlace 27 = .ok (.ireturn, 1) := by decide +kernel
theorem dX12_areTwo_0 : decode cX12_areTwo 0 = .ok (.iload_n 0, 1) := by decide +kernel
theorem dX12_areTwo_1 : decode cX12_areTwo 1 = .ok (.iload_n 1, 1) := by decide +kernel
theorem dX12_areTwo_2 : decode cX12_areTwo 2 = .ok (.invokestatic 7, 3) := by decide +kernel
theorem dX12_areTwo_5 : decode cX12_areTwo 5 = .ok (.ifCond .eq 25, 3) := by decide +kernel
theorem dX12_areTwo_8 : decode cX12_areTwo 8 = .ok (.iload_n 2, 1) := by decide +kernel
theorem dX12_areTwo_9 : decode cX12_areTwo 9 = .ok (.iload_n 3, 1) := by decide +kernel
theorem dX12_areTwo_10 : decode cX12_areTwo 10 = .ok (.invokestatic 7, 3) := by decide +kernel
theorem dX12_areTwo_13 : decode cX12_areTwo 13 = .ok (.ifCond .eq 17, 3) := by decide +kernel
theorem dX12_areTwo_16 : decode cX12_areTwo 16 = .ok (.iload_n 0, 1) := by decide +kernel
theorem dX12_areTwo_17 : decode cX12_areTwo 17 = .ok (.iload_n 2, 1) := by decide +kernel
theorem dX12_areTwo_18 : decode cX12_areTwo 18 = .ok (.if_icmp .ne 8, 3) := by decide +kernel
theorem dX12_areTwo_21 : decode cX12_areTwo 21 = .ok (.iload_n 1, 1) := by decide +kernel
theorem dX12_areTwo_22 : decode cX12_areTwo 22 = .ok (.iload_n 3, 1) := by decide +kernel
theorem dX12_areTwo_23 : decode cX12_areTwo 23 = .ok (.if_icmp .eq 7, 3) := by decide +kernel
theorem dX12_areTwo_26 : decode cX12_areTwo 26 = .ok (.iconst 1, 1) := by decide +kernel
theorem dX12_areTwo_27 : decode cX12_areTwo 27 = .ok (.goto 4, 3) := by decide +kernel
theorem dX12_areTwo_30 : decode cX12_areTwo 30 = .ok (.iconst 0, 1) := by decide +kernel
theorem dX12_areTwo_31 : decode cX12_areTwo 31 = .ok (.ireturn, 1) := by decide +kernel
theorem dX12_pane_0 : decode cX12_pane 0 = .ok (.iload_n 1, 1) := by decide +kernel
theorem dX12_pane_1 : decode cX12_pane 1 = .ok (.iload_n 2, 1) := by decide +kernel
theorem dX12_pane_2 : decode cX12_pane 2 = .ok (.iload_n 3, 1) := by decide +kernel
theorem dX12_pane_3 : decode cX12_pane 3 = .ok (.iload 4, 2) := by decide +kernel
theorem dX12_pane_5 : decode cX12_pane 5 = .ok (.invokestatic 11, 3) := by decide +kernel
theorem dX12_pane_8 : decode cX12_pane 8 = .ok (.ifCond .ne 5, 3) := by decide +kernel
theorem dX12_pane_11 : decode cX12_pane 11 = .ok (.iconst 0, 1) := by decide +kernel
theorem dX12_pane_12 : decode cX12_pane 12 = .ok (.ireturn, 1) := by decide +kernel
theorem dX12_pane_13 : decode cX12_pane 13 = .ok (.aload_n 0, 1) := by decide +kernel
theorem dX12_pane_14 : decode cX12_pane 14 = .ok (.iload_n 1, 1) := by decide +kernel
theorem dX12_pane_15 : decode cX12_pane 15 = .ok (.putfield 15, 3) := by decide +kernel
theorem dX12_pane_18 : decode cX12_pane 18 = .ok (.aload_n 0, 1) := by decide +kernel
theorem dX12_pane_19 : decode cX12_pane 19 = .ok (.iload_n 2, 1) := by decide +kernel
theorem dX12_pane_20 : decode cX12_pane 20 = .ok (.putfield 19, 3) := by decide +kernel
theorem dX12_pane_23 : decode cX12_pane 23 = .ok (.aload_n 0, 1) := by decide +kernel
theorem dX12_pane_24 : decode cX12_pane 24 = .ok (.iload_n 3, 1) := by decide +kernel
theorem dX12_pane_25 : decode cX12_pane 25 = .ok (.putfield 22, 3) := by decide +kernel
theorem dX12_pane_28 : decode cX12_pane 28 = .ok (.aload_n 0, 1) := by decide +kernel
theorem dX12_pane_29 : decode cX12_pane 29 = .ok (.iload 4, 2) := by decide +kernel
theorem dX12_pane_31 : decode cX12_pane 31 = .ok (.putfield 25, 3) := by decide +kernel
theorem dX12_pane_34 : decode cX12_pane 34 = .ok (.iconst 1, 1) := by decide +kernel
theorem dX12_pane_35 : decode cX12_pane 35 = .ok (.ireturn, 1) := by decide +kernel
theorem dX12_board_0 : decode cX12_board 0 = .ok (.iload_n 1, 1) := by decide +kernel
theorem dX12_board_1 : decode cX12_board 1 = .ok (.iload_n 2, 1) := by decide +kernel
theorem dX12_board_2 : decode cX12_board 2 = .ok (.iload_n 3, 1) := by decide +kernel
theorem dX12_board_3 : decode cX12_board 3 = .ok (.iload 4, 2) := by decide +kernel
theorem dX12_board_5 : decode cX12_board 5 = .ok (.invokestatic 11, 3) := by decide +kernel
theorem dX12_board_8 : decode cX12_board 8 = .ok (.ifCond .ne 5, 3) := by decide +kernel
theorem dX12_board_11 : decode cX12_board 11 = .ok (.iconst 0, 1) := by decide +kernel
theorem dX12_board_12 : decode cX12_board 12 = .ok (.ireturn, 1) := by decide +kernel
theorem dX12_board_13 : decode cX12_board 13 = .ok (.aload_n 0, 1) := by decide +kernel
theorem dX12_board_14 : decode cX12_board 14 = .ok (.iload_n 1, 1) := by decide +kernel
theorem dX12_board_15 : decode cX12_board 15 = .ok (.putfield 28, 3) := by decide +kernel
theorem dX12_board_18 : decode cX12_board 18 = .ok (.aload_n 0, 1) := by decide +kernel
theorem dX12_board_19 : decode cX12_board 19 = .ok (.iload_n 2, 1) := by decide +kernel
theorem dX12_board_20 : decode cX12_board 20 = .ok (.putfield 31, 3) := by decide +kernel
theorem dX12_board_23 : decode cX12_board 23 = .ok (.aload_n 0, 1) := by decide +kernel
theorem dX12_board_24 : decode cX12_board 24 = .ok (.iload_n 3, 1) := by decide +kernel
theorem dX12_board_25 : decode cX12_board 25 = .ok (.putfield 34, 3) := by decide +kernel
theorem dX12_board_28 : decode cX12_board 28 = .ok (.aload_n 0, 1) := by decide +kernel
theorem dX12_board_29 : decode cX12_board 29 = .ok (.iload 4, 2) := by decide +kernel
theorem dX12_board_31 : decode cX12_board 31 = .ok (.putfield 37, 3) := by decide +kernel
theorem dX12_board_34 : decode cX12_board 34 = .ok (.iconst 1, 1) := by decide +kernel
theorem dX12_board_35 : decode cX12_board 35 = .ok (.ireturn, 1) := by decide +kernel
theorem dX12_heights_0 : decode cX12_heights 0 = .ok (.iload_n 1, 1) := by decide +kernel
theorem dX12_heights_1 : decode cX12_heights 1 = .ok (.bipush (-100), 2) := by decide +kernel
theorem dX12_heights_3 : decode cX12_heights 3 = .ok (.bipush 100, 2) := by decide +kernel
theorem dX12_heights_5 : decode cX12_heights 5 = .ok (.invokestatic 3, 3) := by decide +kernel
theorem dX12_heights_8 : decode cX12_heights 8 = .ok (.ifCond .eq 23, 3) := by decide +kernel
theorem dX12_heights_11 : decode cX12_heights 11 = .ok (.iload_n 2, 1) := by decide +kernel
theorem dX12_heights_12 : decode cX12_heights 12 = .ok (.iconst 0, 1) := by decide +kernel
theorem dX12_heights_13 : decode cX12_heights 13 = .ok (.bipush 50, 2) := by decide +kernel
theorem dX12_heights_15 : decode cX12_heights 15 = .ok (.invokestatic 3, 3) := by decide +kernel
theorem dX12_heights_18 : decode cX12_heights 18 = .ok (.ifCond .eq 13, 3) := by decide +kernel
theorem dX12_heights_21 : decode cX12_heights 21 = .ok (.iload_n 3, 1) := by decide +kernel
theorem dX12_heights_22 : decode cX12_heights 22 = .ok (.iconst 0, 1) := by decide +kernel
theorem dX12_heights_23 : decode cX12_heights 23 = .ok (.bipush 60, 2) := by decide +kernel
theorem dX12_heights_25 : decode cX12_heights 25 = .ok (.invokestatic 3, 3) := by decide +kernel
theorem dX12_heights_28 : decode cX12_heights 28 = .ok (.ifCond .ne 5, 3) := by decide +kernel
theorem dX12_heights_31 : decode cX12_heights 31 = .ok (.iconst 0, 1) := by decide +kernel
theorem dX12_heights_32 : decode cX12_heights 32 = .ok (.ireturn, 1) := by decide +kernel
theorem dX12_heights_33 : decode cX12_heights 33 = .ok (.aload_n 0, 1) := by decide +kernel
theorem dX12_heights_34 : decode cX12_heights 34 = .ok (.iload_n 1, 1) := by decide +kernel
theorem dX12_heights_35 : decode cX12_heights 35 = .ok (.putfield 40, 3) := by decide +kernel
theorem dX12_heights_38 : decode cX12_heights 38 = .ok (.aload_n 0, 1) := by decide +kernel
theorem dX12_heights_39 : decode cX12_heights 39 = .ok (.iload_n 2, 1) := by decide +kernel
theorem dX12_heights_40 : decode cX12_heights 40 = .ok (.putfield 43, 3) := by decide +kernel
theorem dX12_heights_43 : decode cX12_heights 43 = .ok (.aload_n 0, 1) := by decide +kernel
theorem dX12_heights_44 : decode cX12_heights 44 = .ok (.iload_n 3, 1) := by decide +kernel
theorem dX12_heights_45 : decode cX12_heights 45 = .ok (.putfield 46, 3) := by decide +kernel
theorem dX12_heights_48 : decode cX12_heights 48 = .ok (.iconst 1, 1) := by decide +kernel
theorem dX12_heights_49 : decode cX12_heights 49 = .ok (.ireturn, 1) := by decide +kernel
theorem dX12_seat_0 : decode cX12_seat 0 = .ok (.iload_n 1, 1) := by decide +kernel
theorem dX12_seat_1 : decode cX12_seat 1 = .ok (.iconst 0, 1) := by decide +kernel
theorem dX12_seat_2 : decode cX12_seat 2 = .ok (.bipush 7, 2) := by decide +kernel
theorem dX12_seat_4 : decode cX12_seat 4 = .ok (.invokestatic 3, 3) := by decide +kernel
theorem dX12_seat_7 : decode cX12_seat 7 = .ok (.ifCond .eq 11, 3) := by decide +kernel
theorem dX12_seat_10 : decode cX12_seat 10 = .ok (.iload_n 2, 1) := by decide +kernel
theorem dX12_seat_11 : decode cX12_seat 11 = .ok (.iload_n 3, 1) := by decide +kernel
theorem dX12_seat_12 : decode cX12_seat 12 = .ok (.invokestatic 7, 3) := by decide +kernel
theorem dX12_seat_15 : decode cX12_seat 15 = .ok (.ifCond .ne 5, 3) := by decide +kernel
theorem dX12_seat_18 : decode cX12_seat 18 = .ok (.iconst 0, 1) := by decide +kernel
theorem dX12_seat_19 : decode cX12_seat 19 = .ok (.ireturn, 1) := by decide +kernel
theorem dX12_seat_20 : decode cX12_seat 20 = .ok (.aload_n 0, 1) := by decide +kernel
theorem dX12_seat_21 : decode cX12_seat 21 = .ok (.getfield 49, 3) := by decide +kernel
theorem dX12_seat_24 : decode cX12_seat 24 = .ok (.iload_n 1, 1) := by decide +kernel
theorem dX12_seat_25 : decode cX12_seat 25 = .ok (.iconst 1, 1) := by decide +kernel
theorem dX12_seat_26 : decode cX12_seat 26 = .ok (.bastore, 1) := by decide +kernel
theorem dX12_seat_27 : decode cX12_seat 27 = .ok (.aload_n 0, 1) := by decide +kernel
theorem dX12_seat_28 : decode cX12_seat 28 = .ok (.getfield 53, 3) := by decide +kernel
theorem dX12_seat_31 : decode cX12_seat 31 = .ok (.iload_n 1, 1) := by decide +kernel
theorem dX12_seat_32 : decode cX12_seat 32 = .ok (.iload_n 2, 1) := by decide +kernel
theorem dX12_seat_33 : decode cX12_seat 33 = .ok (.iastore, 1) := by decide +kernel
theorem dX12_seat_34 : decode cX12_seat 34 = .ok (.aload_n 0, 1) := by decide +kernel
theorem dX12_seat_35 : decode cX12_seat 35 = .ok (.getfield 57, 3) := by decide +kernel
theorem dX12_seat_38 : decode cX12_seat 38 = .ok (.iload_n 1, 1) := by decide +kernel
theorem dX12_seat_39 : decode cX12_seat 39 = .ok (.iload_n 3, 1) := by decide +kernel
theorem dX12_seat_40 : decode cX12_seat 40 = .ok (.iastore, 1) := by decide +kernel
theorem dX12_seat_41 : decode cX12_seat 41 = .ok (.iconst 1, 1) := by decide +kernel
theorem dX12_seat_42 : decode cX12_seat 42 = .ok (.ireturn, 1) := by decide +kernel
theorem dX12_wall_0 : decode cX12_wall 0 = .ok (.iload_n 1, 1) := by decide +kernel
theorem dX12_wall_1 : decode cX12_wall 1 = .ok (.iconst 0, 1) := by decide +kernel
theorem dX12_wall_2 : decode cX12_wall 2 = .ok (.bipush 11, 2) := by decide +kernel
theorem dX12_wall_4 : decode cX12_wall 4 = .ok (.invokestatic 3, 3) := by decide +kernel
theorem dX12_wall_7 : decode cX12_wall 7 = .ok (.ifCond .eq 15, 3) := by decide +kernel
theorem dX12_wall_10 : decode cX12_wall 10 = .ok (.iload_n 2, 1) := by decide +kernel
theorem dX12_wall_11 : decode cX12_wall 11 = .ok (.iload_n 3, 1) := by decide +kernel
theorem dX12_wall_12 : decode cX12_wall 12 = .ok (.iload 4, 2) := by decide +kernel
theorem dX12_wall_14 : decode cX12_wall 14 = .ok (.iload 5, 2) := by decide +kernel
theorem dX12_wall_16 : decode cX12_wall 16 = .ok (.invokestatic 11, 3) := by decide +kernel
theorem dX12_wall_19 : decode cX12_wall 19 = .ok (.ifCond .ne 5, 3) := by decide +kernel
theorem dX12_wall_22 : decode cX12_wall 22 = .ok (.iconst 0, 1) := by decide +kernel
theorem dX12_wall_23 : decode cX12_wall 23 = .ok (.ireturn, 1) := by decide +kernel
theorem dX12_wall_24 : decode cX12_wall 24 = .ok (.aload_n 0, 1) := by decide +kernel
theorem dX12_wall_25 : decode cX12_wall 25 = .ok (.getfield 60, 3) := by decide +kernel
theorem dX12_wall_28 : decode cX12_wall 28 = .ok (.iload_n 1, 1) := by decide +kernel
theorem dX12_wall_29 : decode cX12_wall 29 = .ok (.iconst 1, 1) := by decide +kernel
theorem dX12_wall_30 : decode cX12_wall 30 = .ok (.bastore, 1) := by decide +kernel
theorem dX12_wall_31 : decode cX12_wall 31 = .ok (.aload_n 0, 1) := by decide +kernel
theorem dX12_wall_32 : decode cX12_wall 32 = .ok (.getfield 63, 3) := by decide +kernel
theorem dX12_wall_35 : decode cX12_wall 35 = .ok (.iload_n 1, 1) := by decide +kernel
theorem dX12_wall_36 : decode cX12_wall 36 = .ok (.iload_n 2, 1) := by decide +kernel
theorem dX12_wall_37 : decode cX12_wall 37 = .ok (.iastore, 1) := by decide +kernel
theorem dX12_wall_38 : decode cX12_wall 38 = .ok (.aload_n 0, 1) := by decide +kernel
theorem dX12_wall_39 : decode cX12_wall 39 = .ok (.getfield 66, 3) := by decide +kernel
theorem dX12_wall_42 : decode cX12_wall 42 = .ok (.iload_n 1, 1) := by decide +kernel
theorem dX12_wall_43 : decode cX12_wall 43 = .ok (.iload_n 3, 1) := by decide +kernel
theorem dX12_wall_44 : decode cX12_wall 44 = .ok (.iastore, 1) := by decide +kernel
theorem dX12_wall_45 : decode cX12_wall 45 = .ok (.aload_n 0, 1) := by decide +kernel
theorem dX12_wall_46 : decode cX12_wall 46 = .ok (.getfield 69, 3) := by decide +kernel
theorem dX12_wall_49 : decode cX12_wall 49 = .ok (.iload_n 1, 1) := by decide +kernel
theorem dX12_wall_50 : decode cX12_wall 50 = .ok (.iload 4, 2) := by decide +kernel
theorem dX12_wall_52 : decode cX12_wall 52 = .ok (.iastore, 1) := by decide +kernel
theorem dX12_wall_53 : decode cX12_wall 53 = .ok (.aload_n 0, 1) := by decide +kernel
theorem dX12_wall_54 : decode cX12_wall 54 = .ok (.getfield 72, 3) := by decide +kernel
theorem dX12_wall_57 : decode cX12_wall 57 = .ok (.iload_n 1, 1) := by decide +kernel
theorem dX12_wall_58 : decode cX12_wall 58 = .ok (.iload 5, 2) := by decide +kernel
theorem dX12_wall_60 : decode cX12_wall 60 = .ok (.iastore, 1) := by decide +kernel
theorem dX12_wall_61 : decode cX12_wall 61 = .ok (.aload_n 0, 1) := by decide +kernel
theorem dX12_wall_62 : decode cX12_wall 62 = .ok (.getfield 75, 3) := by decide +kernel
theorem dX12_wall_65 : decode cX12_wall 65 = .ok (.iload_n 1, 1) := by decide +kernel
theorem dX12_wall_66 : decode cX12_wall 66 = .ok (.iload 6, 2) := by decide +kernel
theorem dX12_wall_68 : decode cX12_wall 68 = .ok (.bastore, 1) := by decide +kernel
theorem dX12_wall_69 : decode cX12_wall 69 = .ok (.iconst 1, 1) := by decide +kernel
theorem dX12_wall_70 : decode cX12_wall 70 = .ok (.ireturn, 1) := by decide +kernel
theorem dX12_thing_0 : decode cX12_thing 0 = .ok (.iload_n 1, 1) := by decide +kernel
theorem dX12_thing_1 : decode cX12_thing 1 = .ok (.iconst 0, 1) := by decide +kernel
theorem dX12_thing_2 : decode cX12_thing 2 = .ok (.bipush 7, 2) := by decide +kernel
theorem dX12_thing_4 : decode cX12_thing 4 = .ok (.invokestatic 3, 3) := by decide +kernel
theorem dX12_thing_7 : decode cX12_thing 7 = .ok (.ifCond .eq 33, 3) := by decide +kernel
theorem dX12_thing_10 : decode cX12_thing 10 = .ok (.iload_n 2, 1) := by decide +kernel
theorem dX12_thing_11 : decode cX12_thing 11 = .ok (.iload 4, 2) := by decide +kernel
theorem dX12_thing_13 : decode cX12_thing 13 = .ok (.invokestatic 7, 3) := by decide +kernel
theorem dX12_thing_16 : decode cX12_thing 16 = .ok (.ifCond .eq 24, 3) := by decide +kernel
theorem dX12_thing_19 : decode cX12_thing 19 = .ok (.iload_n 3, 1) := by decide +kernel
theorem dX12_thing_20 : decode cX12_thing 20 = .ok (.iload 5, 2) := by decide +kernel
theorem dX12_thing_22 : decode cX12_thing 22 = .ok (.invokestatic 7, 3) := by decide +kernel
theorem dX12_thing_25 : decode cX12_thing 25 = .ok (.ifCond .eq 15, 3) := by decide +kernel
theorem dX12_thing_28 : decode cX12_thing 28 = .ok (.iload_n 2, 1) := by decide +kernel
theorem dX12_thing_29 : decode cX12_thing 29 = .ok (.iload_n 3, 1) := by decide +kernel
theorem dX12_thing_30 : decode cX12_thing 30 = .ok (.if_icmp .ge 10, 3) := by decide +kernel
theorem dX12_thing_33 : decode cX12_thing 33 = .ok (.iload 4, 2) := by decide +kernel
theorem dX12_thing_35 : decode cX12_thing 35 = .ok (.iload 5, 2) := by decide +kernel
theorem dX12_thing_37 : decode cX12_thing 37 = .ok (.if_icmp .lt 5, 3) := by decide +kernel
theorem dX12_thing_40 : decode cX12_thing 40 = .ok (.iconst 0, 1) := by decide +kernel
theorem dX12_thing_41 : decode cX12_thing 41 = .ok (.ireturn, 1) := by decide +kernel
theorem dX12_thing_42 : decode cX12_thing 42 = .ok (.aload_n 0, 1) := by decide +kernel
theorem dX12_thing_43 : decode cX12_thing 43 = .ok (.getfield 78, 3) := by decide +kernel
theorem dX12_thing_46 : decode cX12_thing 46 = .ok (.iload_n 1, 1) := by decide +kernel
theorem dX12_thing_47 : decode cX12_thing 47 = .ok (.iconst 1, 1) := by decide +kernel
theorem dX12_thing_48 : decode cX12_thing 48 = .ok (.bastore, 1) := by decide +kernel
theorem dX12_thing_49 : decode cX12_thing 49 = .ok (.aload_n 0, 1) := by decide +kernel
theorem dX12_thing_50 : decode cX12_thing 50 = .ok (.getfield 81, 3) := by decide +kernel
theorem dX12_thing_53 : decode cX12_thing 53 = .ok (.iload_n 1, 1) := by decide +kernel
theorem dX12_thing_54 : decode cX12_thing 54 = .ok (.iload_n 2, 1) := by decide +kernel
theorem dX12_thing_55 : decode cX12_thing 55 = .ok (.iastore, 1) := by decide +kernel
theorem dX12_thing_56 : decode cX12_thing 56 = .ok (.aload_n 0, 1) := by decide +kernel
theorem dX12_thing_57 : decode cX12_thing 57 = .ok (.getfield 84, 3) := by decide +kernel
theorem dX12_thing_60 : decode cX12_thing 60 = .ok (.iload_n 1, 1) := by decide +kernel
theorem dX12_thing_61 : decode cX12_thing 61 = .ok (.iload_n 3, 1) := by decide +kernel
theorem dX12_thing_62 : decode cX12_thing 62 = .ok (.iastore, 1) := by decide +kernel
theorem dX12_thing_63 : decode cX12_thing 63 = .ok (.aload_n 0, 1) := by decide +kernel
theorem dX12_thing_64 : decode cX12_thing 64 = .ok (.getfield 87, 3) := by decide +kernel
theorem dX12_thing_67 : decode cX12_thing 67 = .ok (.iload_n 1, 1) := by decide +kernel
theorem dX12_thing_68 : decode cX12_thing 68 = .ok (.iload 4, 2) := by decide +kernel
theorem dX12_thing_70 : decode cX12_thing 70 = .ok (.iastore, 1) := by decide +kernel
theorem dX12_thing_71 : decode cX12_thing 71 = .ok (.aload_n 0, 1) := by decide +kernel
theorem dX12_thing_72 : decode cX12_thing 72 = .ok (.getfield 90, 3) := by decide +kernel
theorem dX12_thing_75 : decode cX12_thing 75 = .ok (.iload_n 1, 1) := by decide +kernel
theorem dX12_thing_76 : decode cX12_thing 76 = .ok (.iload 5, 2) := by decide +kernel
theorem dX12_thing_78 : decode cX12_thing 78 = .ok (.iastore, 1) := by decide +kernel
theorem dX12_thing_79 : decode cX12_thing 79 = .ok (.iconst 1, 1) := by decide +kernel
theorem dX12_thing_80 : decode cX12_thing 80 = .ok (.ireturn, 1) := by decide +kernel
theorem dX12_isThe_0 : decode cX12_isThe 0 = .ok (.iload_n 1, 1) := by decide +kernel
theorem dX12_isThe_1 : decode cX12_isThe 1 = .ok (.iconst 0, 1) := by decide +kernel
theorem dX12_isThe_2 : decode cX12_isThe 2 = .ok (.bipush 7, 2) := by decide +kernel
theorem dX12_isThe_4 : decode cX12_isThe 4 = .ok (.invokestatic 3, 3) := by decide +kernel
theorem dX12_isThe_7 : decode cX12_isThe 7 = .ok (.ifCond .eq 16, 3) := by decide +kernel
theorem dX12_isThe_10 : decode cX12_isThe 10 = .ok (.aload_n 0, 1) := by decide +kernel
theorem dX12_isThe_11 : decode cX12_isThe 11 = .ok (.getfield 49, 3) := by decide +kernel
theorem dX12_isThe_14 : decode cX12_isThe 14 = .ok (.iload_n 1, 1) := by decide +kernel
theorem dX12_isThe_15 : decode cX12_isThe 15 = .ok (.baload, 1) := by decide +kernel
theorem dX12_isThe_16 : decode cX12_isThe 16 = .ok (.ifCond .eq 7, 3) := by decide +kernel
theorem dX12_isThe_19 : decode cX12_isThe 19 = .ok (.iconst 1, 1) := by decide +kernel
theorem dX12_isThe_20 : decode cX12_isThe 20 = .ok (.goto 4, 3) := by decide +kernel
theorem dX12_isThe_23 : decode cX12_isThe 23 = .ok (.iconst 0, 1) := by decide +kernel
theorem dX12_isThe_24 : decode cX12_isThe 24 = .ok (.ireturn, 1) := by decide +kernel
theorem dX12_hasWall_0 : decode cX12_hasWall 0 = .ok (.iload_n 1, 1) := by decide +kernel
theorem dX12_hasWall_1 : decode cX12_hasWall 1 = .ok (.iconst 0, 1) := by decide +kernel
theorem dX12_hasWall_2 : decode cX12_hasWall 2 = .ok (.bipush 11, 2) := by decide +kernel
theorem dX12_hasWall_4 : decode cX12_hasWall 4 = .ok (.invokestatic 3, 3) := by decide +kernel
theorem dX12_hasWall_7 : decode cX12_hasWall 7 = .ok (.ifCond .eq 16, 3) := by decide +kernel
theorem dX12_hasWall_10 : decode cX12_hasWall 10 = .ok (.aload_n 0, 1) := by decide +kernel
theorem dX12_hasWall_11 : decode cX12_hasWall 11 = .ok (.getfield 60, 3) := by decide +kernel
theorem dX12_hasWall_14 : decode cX12_hasWall 14 = .ok (.iload_n 1, 1) := by decide +kernel
theorem dX12_hasWall_15 : decode cX12_hasWall 15 = .ok (.baload, 1) := by decide +kernel
theorem dX12_hasWall_16 : decode cX12_hasWall 16 = .ok (.ifCond .eq 7, 3) := by decide +kernel
theorem dX12_hasWall_19 : decode cX12_hasWall 19 = .ok (.iconst 1, 1) := by decide +kernel
theorem dX12_hasWall_20 : decode cX12_hasWall 20 = .ok (.goto 4, 3) := by decide +kernel
theorem dX12_hasWall_23 : decode cX12_hasWall 23 = .ok (.iconst 0, 1) := by decide +kernel
theorem dX12_hasWall_24 : decode cX12_hasWall 24 = .ok (.ireturn, 1) := by decide +kernel
theorem dX12_gone_0 : decode cX12_gone 0 = .ok (.iload_n 1, 1) := by decide +kernel
theorem dX12_gone_1 : decode cX12_gone 1 = .ok (.ifCond .ne 20, 3) := by decide +kernel
theorem dX12_gone_4 : decode cX12_gone 4 = .ok (.aload_n 0, 1) := by decide +kernel
theorem dX12_gone_5 : decode cX12_gone 5 = .ok (.iload_n 2, 1) := by decide +kernel
theorem dX12_gone_6 : decode cX12_gone 6 = .ok (.invokevirtual 93, 3) := by decide +kernel
theorem dX12_gone_9 : decode cX12_gone 9 = .ok (.ifCond .eq 12, 3) := by decide +kernel
theorem dX12_gone_12 : decode cX12_gone 12 = .ok (.aload_n 0, 1) := by decide +kernel
theorem dX12_gone_13 : decode cX12_gone 13 = .ok (.getfield 49, 3) := by decide +kernel
theorem dX12_gone_16 : decode cX12_gone 16 = .ok (.iload_n 2, 1) := by decide +kernel
theorem dX12_gone_17 : decode cX12_gone 17 = .ok (.iconst 0, 1) := by decide +kernel
theorem dX12_gone_18 : decode cX12_gone 18 = .ok (.bastore, 1) := by decide +kernel
theorem dX12_gone_19 : decode cX12_gone 19 = .ok (.iconst 1, 1) := by decide +kernel
theorem dX12_gone_20 : decode cX12_gone 20 = .ok (.ireturn, 1) := by decide +kernel
theorem dX12_gone_21 : decode cX12_gone 21 = .ok (.iload_n 1, 1) := by decide +kernel
theorem dX12_gone_22 : decode cX12_gone 22 = .ok (.iconst 1, 1) := by decide +kernel
theorem dX12_gone_23 : decode cX12_gone 23 = .ok (.if_icmp .ne 20, 3) := by decide +kernel
theorem dX12_gone_26 : decode cX12_gone 26 = .ok (.aload_n 0, 1) := by decide +kernel
theorem dX12_gone_27 : decode cX12_gone 27 = .ok (.iload_n 2, 1) := by decide +kernel
theorem dX12_gone_28 : decode cX12_gone 28 = .ok (.invokevirtual 97, 3) := by decide +kernel
theorem dX12_gone_31 : decode cX12_gone 31 = .ok (.ifCond .eq 12, 3) := by decide +kernel
theorem dX12_gone_34 : decode cX12_gone 34 = .ok (.aload_n 0, 1) := by decide +kernel
theorem dX12_gone_35 : decode cX12_gone 35 = .ok (.getfield 60, 3) := by decide +kernel
theorem dX12_gone_38 : decode cX12_gone 38 = .ok (.iload_n 2, 1) := by decide +kernel
theorem dX12_gone_39 : decode cX12_gone 39 = .ok (.iconst 0, 1) := by decide +kernel
theorem dX12_gone_40 : decode cX12_gone 40 = .ok (.bastore, 1) := by decide +kernel
theorem dX12_gone_41 : decode cX12_gone 41 = .ok (.iconst 1, 1) := by decide +kernel
theorem dX12_gone_42 : decode cX12_gone 42 = .ok (.ireturn, 1) := by decide +kernel
theorem dX12_gone_43 : decode cX12_gone 43 = .ok (.iload_n 1, 1) := by decide +kernel
theorem dX12_gone_44 : decode cX12_gone 44 = .ok (.iconst 2, 1) := by decide +kernel
theorem dX12_gone_45 : decode cX12_gone 45 = .ok (.if_icmp .ne 31, 3) := by decide +kernel
theorem dX12_gone_48 : decode cX12_gone 48 = .ok (.iload_n 2, 1) := by decide +kernel
theorem dX12_gone_49 : decode cX12_gone 49 = .ok (.iconst 0, 1) := by decide +kernel
theorem dX12_gone_50 : decode cX12_gone 50 = .ok (.bipush 7, 2) := by decide +kernel
theorem dX12_gone_52 : decode cX12_gone 52 = .ok (.invokestatic 3, 3) := by decide +kernel
theorem dX12_gone_55 : decode cX12_gone 55 = .ok (.ifCond .eq 21, 3) := by decide +kernel
theorem dX12_gone_58 : decode cX12_gone 58 = .ok (.aload_n 0, 1) := by decide +kernel
theorem dX12_gone_59 : decode cX12_gone 59 = .ok (.getfield 78, 3) := by decide +kernel
theorem dX12_gone_62 : decode cX12_gone 62 = .ok (.iload_n 2, 1) := by decide +kernel
theorem dX12_gone_63 : decode cX12_gone 63 = .ok (.baload, 1) := by decide +kernel
theorem dX12_gone_64 : decode cX12_gone 64 = .ok (.ifCond .eq 12, 3) := by decide +kernel
theorem dX12_gone_67 : decode cX12_gone 67 = .ok (.aload_n 0, 1) := by decide +kernel
theorem dX12_gone_68 : decode cX12_gone 68 = .ok (.getfield 78, 3) := by decide +kernel
theorem dX12_gone_71 : decode cX12_gone 71 = .ok (.iload_n 2, 1) := by decide +kernel
theorem dX12_gone_72 : decode cX12_gone 72 = .ok (.iconst 0, 1) := by decide +kernel
theorem dX12_gone_73 : decode cX12_gone 73 = .ok (.bastore, 1) := by decide +kernel
theorem dX12_gone_74 : decode cX12_gone 74 = .ok (.iconst 1, 1) := by decide +kernel
theorem dX12_gone_75 : decode cX12_gone 75 = .ok (.ireturn, 1) := by decide +kernel
theorem dX12_gone_76 : decode cX12_gone 76 = .ok (.iconst 0, 1) := by decide +kernel
theorem dX12_gone_77 : decode cX12_gone 77 = .ok (.ireturn, 1) := by decide +kernel
theorem dX12_along_0 : decode cX12_along 0 = .ok (.lload_n 1, 1) := by decide +kernel
theorem dX12_along_1 : decode cX12_along 1 = .ok (.aload_n 0, 1) := by decide +kernel
theorem dX12_along_2 : decode cX12_along 2 = .ok (.getfield 15, 3) := by decide +kernel
theorem dX12_along_5 : decode cX12_along 5 = .ok (.i2l, 1) := by decide +kernel
theorem dX12_along_6 : decode cX12_along 6 = .ok (.lsub, 1) := by decide +kernel
theorem dX12_along_7 : decode cX12_along 7 = .ok (.aload_n 0, 1) := by decide +kernel
theorem dX12_along_8 : decode cX12_along 8 = .ok (.getfield 22, 3) := by decide +kernel
theorem dX12_along_11 : decode cX12_along 11 = .ok (.aload_n 0, 1) := by decide +kernel
theorem dX12_along_12 : decode cX12_along 12 = .ok (.getfield 15, 3) := by decide +kernel
theorem dX12_along_15 : decode cX12_along 15 = .ok (.isub, 1) := by decide +kernel
theorem dX12_along_16 : decode cX12_along 16 = .ok (.i2l, 1) := by decide +kernel
theorem dX12_along_17 : decode cX12_along 17 = .ok (.lmul, 1) := by decide +kernel
theorem dX12_along_18 : decode cX12_along 18 = .ok (.lload_n 3, 1) := by decide +kernel
theorem dX12_along_19 : decode cX12_along 19 = .ok (.aload_n 0, 1) := by decide +kernel
theorem dX12_along_20 : decode cX12_along 20 = .ok (.getfield 19, 3) := by decide +kernel
theorem dX12_along_23 : decode cX12_along 23 = .ok (.i2l, 1) := by decide +kernel
theorem dX12_along_24 : decode cX12_along 24 = .ok (.lsub, 1) := by decide +kernel
theorem dX12_along_25 : decode cX12_along 25 = .ok (.aload_n 0, 1) := by decide +kernel
theorem dX12_along_26 : decode cX12_along 26 = .ok (.getfield 25, 3) := by decide +kernel
theorem dX12_along_29 : decode cX12_along 29 = .ok (.aload_n 0, 1) := by decide +kernel
theorem dX12_along_30 : decode cX12_along 30 = .ok (.getfield 19, 3) := by decide +kernel
theorem dX12_along_33 : decode cX12_along 33 = .ok (.isub, 1) := by decide +kernel
theorem dX12_along_34 : decode cX12_along 34 = .ok (.i2l, 1) := by decide +kernel
theorem dX12_along_35 : decode cX12_along 35 = .ok (.lmul, 1) := by decide +kernel
theorem dX12_along_36 : decode cX12_along 36 = .ok (.ladd, 1) := by decide +kernel
theorem dX12_along_37 : decode cX12_along 37 = .ok (.lreturn, 1) := by decide +kernel
theorem dX12_off_0 : decode cX12_off 0 = .ok (.lload_n 1, 1) := by decide +kernel
theorem dX12_off_1 : decode cX12_off 1 = .ok (.aload_n 0, 1) := by decide +kernel
theorem dX12_off_2 : decode cX12_off 2 = .ok (.getfield 15, 3) := by decide +kernel
theorem dX12_off_5 : decode cX12_off 5 = .ok (.i2l, 1) := by decide +kernel
theorem dX12_off_6 : decode cX12_off 6 = .ok (.lsub, 1) := by decide +kernel
theorem dX12_off_7 : decode cX12_off 7 = .ok (.lneg, 1) := by decide +kernel
theorem dX12_off_8 : decode cX12_off 8 = .ok (.aload_n 0, 1) := by decide +kernel
theorem dX12_off_9 : decode cX12_off 9 = .ok (.getfield 25, 3) := by decide +kernel
theorem dX12_off_12 : decode cX12_off 12 = .ok (.aload_n 0, 1) := by decide +kernel
theorem dX12_off_13 : decode cX12_off 13 = .ok (.getfield 19, 3) := by decide +kernel
theorem dX12_off_16 : decode cX12_off 16 = .ok (.isub, 1) := by decide +kernel
theorem dX12_off_17 : decode cX12_off 17 = .ok (.i2l, 1) := by decide +kernel
theorem dX12_off_18 : decode cX12_off 18 = .ok (.lmul, 1) := by decide +kernel
theorem dX12_off_19 : decode cX12_off 19 = .ok (.lload_n 3, 1) := by decide +kernel
theorem dX12_off_20 : decode cX12_off 20 = .ok (.aload_n 0, 1) := by decide +kernel
theorem dX12_off_21 : decode cX12_off 21 = .ok (.getfield 19, 3) := by decide +kernel
theorem dX12_off_24 : decode cX12_off 24 = .ok (.i2l, 1) := by decide +kernel
theorem dX12_off_25 : decode cX12_off 25 = .ok (.lsub, 1) := by decide +kernel
theorem dX12_off_26 : decode cX12_off 26 = .ok (.aload_n 0, 1) := by decide +kernel
theorem dX12_off_27 : decode cX12_off 27 = .ok (.getfield 22, 3) := by decide +kernel
theorem dX12_off_30 : decode cX12_off 30 = .ok (.aload_n 0, 1) := by decide +kernel
theorem dX12_off_31 : decode cX12_off 31 = .ok (.getfield 15, 3) := by decide +kernel
theorem dX12_off_34 : decode cX12_off 34 = .ok (.isub, 1) := by decide +kernel
theorem dX12_off_35 : decode cX12_off 35 = .ok (.i2l, 1) := by decide +kernel
theorem dX12_off_36 : decode cX12_off 36 = .ok (.lmul, 1) := by decide +kernel
theorem dX12_off_37 : decode cX12_off 37 = .ok (.ladd, 1) := by decide +kernel
theorem dX12_off_38 : decode cX12_off 38 = .ok (.lreturn, 1) := by decide +kernel
theorem dX12_length_0 : decode cX12_length 0 = .ok (.aload_n 0, 1) := by decide +kernel
theorem dX12_length_1 : decode cX12_length 1 = .ok (.aload_n 0, 1) := by decide +kernel
theorem dX12_length_2 : decode cX12_length 2 = .ok (.getfield 22, 3) := by decide +kernel
theorem dX12_length_5 : decode cX12_length 5 = .ok (.i2l, 1) := by decide +kernel
theorem dX12_length_6 : decode cX12_length 6 = .ok (.aload_n 0, 1) := by decide +kernel
theorem dX12_length_7 : decode cX12_length 7 = .ok (.getfield 25, 3) := by decide +kernel
theorem dX12_length_10 : decode cX12_length 10 = .ok (.i2l, 1) := by decide +kernel
theorem dX12_length_11 : decode cX12_length 11 = .ok (.invokevirtual 100, 3) := by decide +kernel
theorem dX12_length_14 : decode cX12_length 14 = .ok (.lreturn, 1) := by decide +kernel
theorem dX12_isWide_0 : decode cX12_isWide 0 = .ok (.iload_n 0, 1) := by decide +kernel
theorem dX12_isWide_1 : decode cX12_isWide 1 = .ok (.sipush (-200), 3) := by decide +kernel
theorem dX12_isWide_4 : decode cX12_isWide 4 = .ok (.sipush 200, 3) := by decide +kernel
theorem dX12_isWide_7 : decode cX12_isWide 7 = .ok (.invokestatic 3, 3) := by decide +kernel
theorem dX12_isWide_10 : decode cX12_isWide 10 = .ok (.ifCond .eq 20, 3) := by decide +kernel
theorem dX12_isWide_13 : decode cX12_isWide 13 = .ok (.iload_n 1, 1) := by decide +kernel
theorem dX12_isWide_14 : decode cX12_isWide 14 = .ok (.sipush (-200), 3) := by decide +kernel
theorem dX12_isWide_17 : decode cX12_isWide 17 = .ok (.sipush 200, 3) := by decide +kernel
theorem dX12_isWide_20 : decode cX12_isWide 20 = .ok (.invokestatic 3, 3) := by decide +kernel
theorem dX12_isWide_23 : decode cX12_isWide 23 = .ok (.ifCond .eq 7, 3) := by decide +kernel
theorem dX12_isWide_26 : decode cX12_isWide 26 = .ok (.iconst 1, 1) := by decide +kernel
theorem dX12_isWide_27 : decode cX12_isWide 27 = .ok (.goto 4, 3) := by decide +kernel
theorem dX12_isWide_30 : decode cX12_isWide 30 = .ok (.iconst 0, 1) := by decide +kernel
theorem dX12_isWide_31 : decode cX12_isWide 31 = .ok (.ireturn, 1) := by decide +kernel
theorem dX12_mirroredX_0 : decode cX12_mirroredX 0 = .ok (.lload_n 1, 1) := by decide +kernel
theorem dX12_mirroredX_1 : decode cX12_mirroredX 1 = .ok (.aload_n 0, 1) := by decide +kernel
theorem dX12_mirroredX_2 : decode cX12_mirroredX 2 = .ok (.invokevirtual 104, 3) := by decide +kernel
theorem dX12_mirroredX_5 : decode cX12_mirroredX 5 = .ok (.lmul, 1) := by decide +kernel
theorem dX12_mirroredX_6 : decode cX12_mirroredX 6 = .ok (.ldc2_w 108, 3) := by decide +kernel
theorem dX12_mirroredX_9 : decode cX12_mirroredX 9 = .ok (.aload_n 0, 1) := by decide +kernel
theorem dX12_mirroredX_10 : decode cX12_mirroredX 10 = .ok (.lload_n 1, 1) := by decide +kernel
theorem dX12_mirroredX_11 : decode cX12_mirroredX 11 = .ok (.lload_n 3, 1) := by decide +kernel
theorem dX12_mirroredX_12 : decode cX12_mirroredX 12 = .ok (.invokevirtual 110, 3) := by decide +kernel
theorem dX12_mirroredX_15 : decode cX12_mirroredX 15 = .ok (.lmul, 1) := by decide +kernel
theorem dX12_mirroredX_16 : decode cX12_mirroredX 16 = .ok (.aload_n 0, 1) := by decide +kernel
theorem dX12_mirroredX_17 : decode cX12_mirroredX 17 = .ok (.getfield 25, 3) := by decide +kernel
theorem dX12_mirroredX_20 : decode cX12_mirroredX 20 = .ok (.aload_n 0, 1) := by decide +kernel
theorem dX12_mirroredX_21 : decode cX12_mirroredX 21 = .ok (.getfield 19, 3) := by decide +kernel
theorem dX12_mirroredX_24 : decode cX12_mirroredX 24 = .ok (.isub, 1) := by decide +kernel
theorem dX12_mirroredX_25 : decode cX12_mirroredX 25 = .ok (.i2l, 1) := by decide +kernel
theorem dX12_mirroredX_26 : decode cX12_mirroredX 26 = .ok (.lmul, 1) := by decide +kernel
theorem dX12_mirroredX_27 : decode cX12_mirroredX 27 = .ok (.ladd, 1) := by decide +kernel
theorem dX12_mirroredX_28 : decode cX12_mirroredX 28 = .ok (.lreturn, 1) := by decide +kernel
theorem dX12_mirroredY_0 : decode cX12_mirroredY 0 = .ok (.lload_n 3, 1) := by decide +kernel
theorem dX12_mirroredY_1 : decode cX12_mirroredY 1 = .ok (.aload_n 0, 1) := by decide +kernel
theorem dX12_mirroredY_2 : decode cX12_mirroredY 2 = .ok (.invokevirtual 104, 3) := by decide +kernel
theorem dX12_mirroredY_5 : decode cX12_mirroredY 5 = .ok (.lmul, 1) := by decide +kernel
theorem dX12_mirroredY_6 : decode cX12_mirroredY 6 = .ok (.ldc2_w 108, 3) := by decide +kernel
theorem dX12_mirroredY_9 : decode cX12_mirroredY 9 = .ok (.aload_n 0, 1) := by decide +kernel
theorem dX12_mirroredY_10 : decode cX12_mirroredY 10 = .ok (.lload_n 1, 1) := by decide +kernel
theorem dX12_mirroredY_11 : decode cX12_mirroredY 11 = .ok (.lload_n 3, 1) := by decide +kernel
theorem dX12_mirroredY_12 : decode cX12_mirroredY 12 = .ok (.invokevirtual 110, 3) := by decide +kernel
theorem dX12_mirroredY_15 : decode cX12_mirroredY 15 = .ok (.lmul, 1) := by decide +kernel
theorem dX12_mirroredY_16 : decode cX12_mirroredY 16 = .ok (.aload_n 0, 1) := by decide +kernel
theorem dX12_mirroredY_17 : decode cX12_mirroredY 17 = .ok (.getfield 22, 3) := by decide +kernel
theorem dX12_mirroredY_20 : decode cX12_mirroredY 20 = .ok (.aload_n 0, 1) := by decide +kernel
theorem dX12_mirroredY_21 : decode cX12_mirroredY 21 = .ok (.getfield 15, 3) := by decide +kernel
theorem dX12_mirroredY_24 : decode cX12_mirroredY 24 = .ok (.isub, 1) := by decide +kernel
theorem dX12_mirroredY_25 : decode cX12_mirroredY 25 = .ok (.i2l, 1) := by decide +kernel
theorem dX12_mirroredY_26 : decode cX12_mirroredY 26 = .ok (.lmul, 1) := by decide +kernel
theorem dX12_mirroredY_27 : decode cX12_mirroredY 27 = .ok (.lsub, 1) := by decide +kernel
theorem dX12_mirroredY_28 : decode cX12_mirroredY 28 = .ok (.lreturn, 1) := by decide +kernel
theorem dX12_of_0 : decode cX12_of 0 = .ok (.iload_n 1, 1) := by decide +kernel
theorem dX12_of_1 : decode cX12_of 1 = .ok (.iload_n 2, 1) := by decide +kernel
theorem dX12_of_2 : decode cX12_of 2 = .ok (.invokestatic 113, 3) := by decide +kernel
theorem dX12_of_5 : decode cX12_of 5 = .ok (.ifCond .ne 7, 3) := by decide +kernel
theorem dX12_of_8 : decode cX12_of 8 = .ok (.ldc2_w 116, 3) := by decide +kernel
theorem dX12_of_11 : decode cX12_of 11 = .ok (.lreturn, 1) := by decide +kernel
theorem dX12_of_12 : decode cX12_of 12 = .ok (.iload_n 3, 1) := by decide +kernel
theorem dX12_of_13 : decode cX12_of 13 = .ok (.tableswitch 76 0 4 #[35, 44, 53, 58, 67], 35) := by decide +kernel
theorem dX12_of_48 : decode cX12_of 48 = .ok (.aload_n 0, 1) := by decide +kernel
theorem dX12_of_49 : decode cX12_of 49 = .ok (.iload_n 1, 1) := by decide +kernel
theorem dX12_of_50 : decode cX12_of 50 = .ok (.i2l, 1) := by decide +kernel
theorem dX12_of_51 : decode cX12_of 51 = .ok (.iload_n 2, 1) := by decide +kernel
theorem dX12_of_52 : decode cX12_of 52 = .ok (.i2l, 1) := by decide +kernel
theorem dX12_of_53 : decode cX12_of 53 = .ok (.invokevirtual 100, 3) := by decide +kernel
theorem dX12_of_56 : decode cX12_of 56 = .ok (.lreturn, 1) := by decide +kernel
theorem dX12_of_57 : decode cX12_of 57 = .ok (.aload_n 0, 1) := by decide +kernel
theorem dX12_of_58 : decode cX12_of 58 = .ok (.iload_n 1, 1) := by decide +kernel
theorem dX12_of_59 : decode cX12_of 59 = .ok (.i2l, 1) := by decide +kernel
theorem dX12_of_60 : decode cX12_of 60 = .ok (.iload_n 2, 1) := by decide +kernel
theorem dX12_of_61 : decode cX12_of 61 = .ok (.i2l, 1) := by decide +kernel
theorem dX12_of_62 : decode cX12_of 62 = .ok (.invokevirtual 110, 3) := by decide +kernel
theorem dX12_of_65 : decode cX12_of 65 = .ok (.lreturn, 1) := by decide +kernel
theorem dX12_of_66 : decode cX12_of 66 = .ok (.aload_n 0, 1) := by decide +kernel
theorem dX12_of_67 : decode cX12_of 67 = .ok (.invokevirtual 104, 3) := by decide +kernel
theorem dX12_of_70 : decode cX12_of 70 = .ok (.lreturn, 1) := by decide +kernel
theorem dX12_of_71 : decode cX12_of 71 = .ok (.aload_n 0, 1) := by decide +kernel
theorem dX12_of_72 : decode cX12_of 72 = .ok (.iload_n 1, 1) := by decide +kernel
theorem dX12_of_73 : decode cX12_of 73 = .ok (.i2l, 1) := by decide +kernel
theorem dX12_of_74 : decode cX12_of 74 = .ok (.iload_n 2, 1) := by decide +kernel
theorem dX12_of_75 : decode cX12_of 75 = .ok (.i2l, 1) := by decide +kernel
theorem dX12_of_76 : decode cX12_of 76 = .ok (.invokevirtual 118, 3) := by decide +kernel
theorem dX12_of_79 : decode cX12_of 79 = .ok (.lreturn, 1) := by decide +kernel
theorem dX12_of_80 : decode cX12_of 80 = .ok (.aload_n 0, 1) := by decide +kernel
theorem dX12_of_81 : decode cX12_of 81 = .ok (.iload_n 1, 1) := by decide +kernel
theorem dX12_of_82 : decode cX12_of 82 = .ok (.i2l, 1) := by decide +kernel
theorem dX12_of_83 : decode cX12_of 83 = .ok (.iload_n 2, 1) := by decide +kernel
theorem dX12_of_84 : decode cX12_of 84 = .ok (.i2l, 1) := by decide +kernel
theorem dX12_of_85 : decode cX12_of 85 = .ok (.invokevirtual 121, 3) := by decide +kernel
theorem dX12_of_88 : decode cX12_of 88 = .ok (.lreturn, 1) := by decide +kernel
theorem dX12_of_89 : decode cX12_of 89 = .ok (.ldc2_w 116, 3) := by decide +kernel
theorem dX12_of_92 : decode cX12_of 92 = .ok (.lreturn, 1) := by decide +kernel
theorem dX12_meets_0 : decode cX12_meets 0 = .ok (.aload_n 0, 1) := by decide +kernel
theorem dX12_meets_1 : decode cX12_meets 1 = .ok (.ldc2_w 108, 3) := by decide +kernel
theorem dX12_meets_4 : decode cX12_meets 4 = .ok (.aload_n 0, 1) := by decide +kernel
theorem dX12_meets_5 : decode cX12_meets 5 = .ok (.getfield 53, 3) := by decide +kernel
theorem dX12_meets_8 : decode cX12_meets 8 = .ok (.iload_n 1, 1) := by decide +kernel
theorem dX12_meets_9 : decode cX12_meets 9 = .ok (.iaload, 1) := by decide +kernel
theorem dX12_meets_10 : decode cX12_meets 10 = .ok (.i2l, 1) := by decide +kernel
theorem dX12_meets_11 : decode cX12_meets 11 = .ok (.lmul, 1) := by decide +kernel
theorem dX12_meets_12 : decode cX12_meets 12 = .ok (.putfield 124, 3) := by decide +kernel
theorem dX12_meets_15 : decode cX12_meets 15 = .ok (.aload_n 0, 1) := by decide +kernel
theorem dX12_meets_16 : decode cX12_meets 16 = .ok (.ldc2_w 108, 3) := by decide +kernel
theorem dX12_meets_19 : decode cX12_meets 19 = .ok (.aload_n 0, 1) := by decide +kernel
theorem dX12_meets_20 : decode cX12_meets 20 = .ok (.getfield 57, 3) := by decide +kernel
theorem dX12_meets_23 : decode cX12_meets 23 = .ok (.iload_n 1, 1) := by decide +kernel
theorem dX12_meets_24 : decode cX12_meets 24 = .ok (.iaload, 1) := by decide +kernel
theorem dX12_meets_25 : decode cX12_meets 25 = .ok (.i2l, 1) := by decide +kernel
theorem dX12_meets_26 : decode cX12_meets 26 = .ok (.lmul, 1) := by decide +kernel
theorem dX12_meets_27 : decode cX12_meets 27 = .ok (.putfield 128, 3) := by decide +kernel
theorem dX12_meets_30 : decode cX12_meets 30 = .ok (.aload_n 0, 1) := by decide +kernel
theorem dX12_meets_31 : decode cX12_meets 31 = .ok (.lload_n 2, 1) := by decide +kernel
theorem dX12_meets_32 : decode cX12_meets 32 = .ok (.putfield 131, 3) := by decide +kernel
theorem dX12_meets_35 : decode cX12_meets 35 = .ok (.aload_n 0, 1) := by decide +kernel
theorem dX12_meets_36 : decode cX12_meets 36 = .ok (.lload 4, 2) := by decide +kernel
theorem dX12_meets_38 : decode cX12_meets 38 = .ok (.putfield 134, 3) := by decide +kernel
theorem dX12_meets_41 : decode cX12_meets 41 = .ok (.ldc2_w 108, 3) := by decide +kernel
theorem dX12_meets_44 : decode cX12_meets 44 = .ok (.aload_n 0, 1) := by decide +kernel
theorem dX12_meets_45 : decode cX12_meets 45 = .ok (.getfield 22, 3) := by decide +kernel
theorem dX12_meets_48 : decode cX12_meets 48 = .ok (.aload_n 0, 1) := by decide +kernel
theorem dX12_meets_49 : decode cX12_meets 49 = .ok (.getfield 15, 3) := by decide +kernel
theorem dX12_meets_52 : decode cX12_meets 52 = .ok (.isub, 1) := by decide +kernel
theorem dX12_meets_53 : decode cX12_meets 53 = .ok (.i2l, 1) := by decide +kernel
theorem dX12_meets_54 : decode cX12_meets 54 = .ok (.lmul, 1) := by decide +kernel
theorem dX12_meets_55 : decode cX12_meets 55 = .ok (.lstore 6, 2) := by decide +kernel
theorem dX12_meets_57 : decode cX12_meets 57 = .ok (.ldc2_w 108, 3) := by decide +kernel
theorem dX12_meets_60 : decode cX12_meets 60 = .ok (.aload_n 0, 1) := by decide +kernel
theorem dX12_meets_61 : decode cX12_meets 61 = .ok (.getfield 25, 3) := by decide +kernel
theorem dX12_meets_64 : decode cX12_meets 64 = .ok (.aload_n 0, 1) := by decide +kernel
theorem dX12_meets_65 : decode cX12_meets 65 = .ok (.getfield 19, 3) := by decide +kernel
theorem dX12_meets_68 : decode cX12_meets 68 = .ok (.isub, 1) := by decide +kernel
theorem dX12_meets_69 : decode cX12_meets 69 = .ok (.i2l, 1) := by decide +kernel
theorem dX12_meets_70 : decode cX12_meets 70 = .ok (.lmul, 1) := by decide +kernel
theorem dX12_meets_71 : decode cX12_meets 71 = .ok (.lstore 8, 2) := by decide +kernel
theorem dX12_meets_73 : decode cX12_meets 73 = .ok (.aload_n 0, 1) := by decide +kernel
theorem dX12_meets_74 : decode cX12_meets 74 = .ok (.getfield 124, 3) := by decide +kernel
theorem dX12_meets_77 : decode cX12_meets 77 = .ok (.ldc2_w 108, 3) := by decide +kernel
theorem dX12_meets_80 : decode cX12_meets 80 = .ok (.aload_n 0, 1) := by decide +kernel
theorem dX12_meets_81 : decode cX12_meets 81 = .ok (.getfield 15, 3) := by decide +kernel
theorem dX12_meets_84 : decode cX12_meets 84 = .ok (.i2l, 1) := by decide +kernel
theorem dX12_meets_85 : decode cX12_meets 85 = .ok (.lmul, 1) := by decide +kernel
theorem dX12_meets_86 : decode cX12_meets 86 = .ok (.lsub, 1) := by decide +kernel
theorem dX12_meets_87 : decode cX12_meets 87 = .ok (.lload 6, 2) := by decide +kernel
theorem dX12_meets_89 : decode cX12_meets 89 = .ok (.lmul, 1) := by decide +kernel
theorem dX12_meets_90 : decode cX12_meets 90 = .ok (.aload_n 0, 1) := by decide +kernel
theorem dX12_meets_91 : decode cX12_meets 91 = .ok (.getfield 128, 3) := by decide +kernel
theorem dX12_meets_94 : decode cX12_meets 94 = .ok (.ldc2_w 108, 3) := by decide +kernel
theorem dX12_meets_97 : decode cX12_meets 97 = .ok (.aload_n 0, 1) := by decide +kernel
theorem dX12_meets_98 : decode cX12_meets 98 = .ok (.getfield 19, 3) := by decide +kernel
theorem dX12_meets_101 : decode cX12_meets 101 = .ok (.i2l, 1) := by decide +kernel
theorem dX12_meets_102 : decode cX12_meets 102 = .ok (.lmul, 1) := by decide +kernel
theorem dX12_meets_103 : decode cX12_meets 103 = .ok (.lsub, 1) := by decide +kernel
theorem dX12_meets_104 : decode cX12_meets 104 = .ok (.lload 8, 2) := by decide +kernel
theorem dX12_meets_106 : decode cX12_meets 106 = .ok (.lmul, 1) := by decide +kernel
theorem dX12_meets_107 : decode cX12_meets 107 = .ok (.ladd, 1) := by decide +kernel
theorem dX12_meets_108 : decode cX12_meets 108 = .ok (.lstore 10, 2) := by decide +kernel
theorem dX12_meets_110 : decode cX12_meets 110 = .ok (.aload_n 0, 1) := by decide +kernel
theorem dX12_meets_111 : decode cX12_meets 111 = .ok (.getfield 124, 3) := by decide +kernel
theorem dX12_meets_114 : decode cX12_meets 114 = .ok (.ldc2_w 108, 3) := by decide +kernel
theorem dX12_meets_117 : decode cX12_meets 117 = .ok (.aload_n 0, 1) := by decide +kernel
theorem dX12_meets_118 : decode cX12_meets 118 = .ok (.getfield 15, 3) := by decide +kernel
theorem dX12_meets_121 : decode cX12_meets 121 = .ok (.i2l, 1) := by decide +kernel
theorem dX12_meets_122 : decode cX12_meets 122 = .ok (.lmul, 1) := by decide +kernel
theorem dX12_meets_123 : decode cX12_meets 123 = .ok (.lsub, 1) := by decide +kernel
theorem dX12_meets_124 : decode cX12_meets 124 = .ok (.lneg, 1) := by decide +kernel
theorem dX12_meets_125 : decode cX12_meets 125 = .ok (.lload 8, 2) := by decide +kernel
theorem dX12_meets_127 : decode cX12_meets 127 = .ok (.lmul, 1) := by decide +kernel
theorem dX12_meets_128 : decode cX12_meets 128 = .ok (.aload_n 0, 1) := by decide +kernel
theorem dX12_meets_129 : decode cX12_meets 129 = .ok (.getfield 128, 3) := by decide +kernel
theorem dX12_meets_132 : decode cX12_meets 132 = .ok (.ldc2_w 108, 3) := by decide +kernel
theorem dX12_meets_135 : decode cX12_meets 135 = .ok (.aload_n 0, 1) := by decide +kernel
theorem dX12_meets_136 : decode cX12_meets 136 = .ok (.getfield 19, 3) := by decide +kernel
theorem dX12_meets_139 : decode cX12_meets 139 = .ok (.i2l, 1) := by decide +kernel
theorem dX12_meets_140 : decode cX12_meets 140 = .ok (.lmul, 1) := by decide +kernel
theorem dX12_meets_141 : decode cX12_meets 141 = .ok (.lsub, 1) := by decide +kernel
theorem dX12_meets_142 : decode cX12_meets 142 = .ok (.lload 6, 2) := by decide +kernel
theorem dX12_meets_144 : decode cX12_meets 144 = .ok (.lmul, 1) := by decide +kernel
theorem dX12_meets_145 : decode cX12_meets 145 = .ok (.ladd, 1) := by decide +kernel
theorem dX12_meets_146 : decode cX12_meets 146 = .ok (.lstore 12, 2) := by decide +kernel
theorem dX12_meets_148 : decode cX12_meets 148 = .ok (.lload_n 2, 1) := by decide +kernel
theorem dX12_meets_149 : decode cX12_meets 149 = .ok (.ldc2_w 108, 3) := by decide +kernel
theorem dX12_meets_152 : decode cX12_meets 152 = .ok (.aload_n 0, 1) := by decide +kernel
theorem dX12_meets_153 : decode cX12_meets 153 = .ok (.getfield 15, 3) := by decide +kernel
theorem dX12_meets_156 : decode cX12_meets 156 = .ok (.i2l, 1) := by decide +kernel
theorem dX12_meets_157 : decode cX12_meets 157 = .ok (.lmul, 1) := by decide +kernel
theorem dX12_meets_158 : decode cX12_meets 158 = .ok (.lsub, 1) := by decide +kernel
theorem dX12_meets_159 : decode cX12_meets 159 = .ok (.lload 6, 2) := by decide +kernel
theorem dX12_meets_161 : decode cX12_meets 161 = .ok (.lmul, 1) := by decide +kernel
theorem dX12_meets_162 : decode cX12_meets 162 = .ok (.lload 4, 2) := by decide +kernel
theorem dX12_meets_164 : decode cX12_meets 164 = .ok (.ldc2_w 108, 3) := by decide +kernel
theorem dX12_meets_167 : decode cX12_meets 167 = .ok (.aload_n 0, 1) := by decide +kernel
theorem dX12_meets_168 : decode cX12_meets 168 = .ok (.getfield 19, 3) := by decide +kernel
theorem dX12_meets_171 : decode cX12_meets 171 = .ok (.i2l, 1) := by decide +kernel
theorem dX12_meets_172 : decode cX12_meets 172 = .ok (.lmul, 1) := by decide +kernel
theorem dX12_meets_173 : decode cX12_meets 173 = .ok (.lsub, 1) := by decide +kernel
theorem dX12_meets_174 : decode cX12_meets 174 = .ok (.lload 8, 2) := by decide +kernel
theorem dX12_meets_176 : decode cX12_meets 176 = .ok (.lmul, 1) := by decide +kernel
theorem dX12_meets_177 : decode cX12_meets 177 = .ok (.ladd, 1) := by decide +kernel
theorem dX12_meets_178 : decode cX12_meets 178 = .ok (.lstore 14, 2) := by decide +kernel
theorem dX12_meets_180 : decode cX12_meets 180 = .ok (.lload_n 2, 1) := by decide +kernel
theorem dX12_meets_181 : decode cX12_meets 181 = .ok (.ldc2_w 108, 3) := by decide +kernel
theorem dX12_meets_184 : decode cX12_meets 184 = .ok (.aload_n 0, 1) := by decide +kernel
theorem dX12_meets_185 : decode cX12_meets 185 = .ok (.getfield 15, 3) := by decide +kernel
theorem dX12_meets_188 : decode cX12_meets 188 = .ok (.i2l, 1) := by decide +kernel
theorem dX12_meets_189 : decode cX12_meets 189 = .ok (.lmul, 1) := by decide +kernel
theorem dX12_meets_190 : decode cX12_meets 190 = .ok (.lsub, 1) := by decide +kernel
theorem dX12_meets_191 : decode cX12_meets 191 = .ok (.lneg, 1) := by decide +kernel
theorem dX12_meets_192 : decode cX12_meets 192 = .ok (.lload 8, 2) := by decide +kernel
theorem dX12_meets_194 : decode cX12_meets 194 = .ok (.lmul, 1) := by decide +kernel
theorem dX12_meets_195 : decode cX12_meets 195 = .ok (.lload 4, 2) := by decide +kernel
theorem dX12_meets_197 : decode cX12_meets 197 = .ok (.ldc2_w 108, 3) := by decide +kernel
theorem dX12_meets_200 : decode cX12_meets 200 = .ok (.aload_n 0, 1) := by decide +kernel
theorem dX12_meets_201 : decode cX12_meets 201 = .ok (.getfield 19, 3) := by decide +kernel
theorem dX12_meets_204 : decode cX12_meets 204 = .ok (.i2l, 1) := by decide +kernel
theorem dX12_meets_205 : decode cX12_meets 205 = .ok (.lmul, 1) := by decide +kernel
theorem dX12_meets_206 : decode cX12_meets 206 = .ok (.lsub, 1) := by decide +kernel
theorem dX12_meets_207 : decode cX12_meets 207 = .ok (.lload 6, 2) := by decide +kernel
theorem dX12_meets_209 : decode cX12_meets 209 = .ok (.lmul, 1) := by decide +kernel
theorem dX12_meets_210 : decode cX12_meets 210 = .ok (.ladd, 1) := by decide +kernel
theorem dX12_meets_211 : decode cX12_meets 211 = .ok (.lstore 16, 2) := by decide +kernel
theorem dX12_meets_213 : decode cX12_meets 213 = .ok (.lload 12, 2) := by decide +kernel
theorem dX12_meets_215 : decode cX12_meets 215 = .ok (.lconst 0, 1) := by decide +kernel
theorem dX12_meets_216 : decode cX12_meets 216 = .ok (.lcmp, 1) := by decide +kernel
theorem dX12_meets_217 : decode cX12_meets 217 = .ok (.ifCond .le 10, 3) := by decide +kernel
theorem dX12_meets_220 : decode cX12_meets 220 = .ok (.lload 16, 2) := by decide +kernel
theorem dX12_meets_222 : decode cX12_meets 222 = .ok (.lconst 0, 1) := by decide +kernel
theorem dX12_meets_223 : decode cX12_meets 223 = .ok (.lcmp, 1) := by decide +kernel
theorem dX12_meets_224 : decode cX12_meets 224 = .ok (.ifCond .gt 19, 3) := by decide +kernel
theorem dX12_meets_227 : decode cX12_meets 227 = .ok (.lload 12, 2) := by decide +kernel
theorem dX12_meets_229 : decode cX12_meets 229 = .ok (.lconst 0, 1) := by decide +kernel
theorem dX12_meets_230 : decode cX12_meets 230 = .ok (.lcmp, 1) := by decide +kernel
theorem dX12_meets_231 : decode cX12_meets 231 = .ok (.ifCond .ge 10, 3) := by decide +kernel
theorem dX12_meets_234 : decode cX12_meets 234 = .ok (.lload 16, 2) := by decide +kernel
theorem dX12_meets_236 : decode cX12_meets 236 = .ok (.lconst 0, 1) := by decide +kernel
theorem dX12_meets_237 : decode cX12_meets 237 = .ok (.lcmp, 1) := by decide +kernel
theorem dX12_meets_238 : decode cX12_meets 238 = .ok (.ifCond .lt 5, 3) := by decide +kernel
theorem dX12_meets_241 : decode cX12_meets 241 = .ok (.iconst 0, 1) := by decide +kernel
theorem dX12_meets_242 : decode cX12_meets 242 = .ok (.ireturn, 1) := by decide +kernel
theorem dX12_meets_243 : decode cX12_meets 243 = .ok (.lload 6, 2) := by decide +kernel
theorem dX12_meets_245 : decode cX12_meets 245 = .ok (.lload 6, 2) := by decide +kernel
theorem dX12_meets_247 : decode cX12_meets 247 = .ok (.lmul, 1) := by decide +kernel
theorem dX12_meets_248 : decode cX12_meets 248 = .ok (.lload 8, 2) := by decide +kernel
theorem dX12_meets_250 : decode cX12_meets 250 = .ok (.lload 8, 2) := by decide +kernel
theorem dX12_meets_252 : decode cX12_meets 252 = .ok (.lmul, 1) := by decide +kernel
theorem dX12_meets_253 : decode cX12_meets 253 = .ok (.ladd, 1) := by decide +kernel
theorem dX12_meets_254 : decode cX12_meets 254 = .ok (.lstore 18, 2) := by decide +kernel
theorem dX12_meets_256 : decode cX12_meets 256 = .ok (.lload 12, 2) := by decide +kernel
theorem dX12_meets_258 : decode cX12_meets 258 = .ok (.lload 16, 2) := by decide +kernel
theorem dX12_meets_260 : decode cX12_meets 260 = .ok (.ladd, 1) := by decide +kernel
theorem dX12_meets_261 : decode cX12_meets 261 = .ok (.lstore 20, 2) := by decide +kernel
theorem dX12_meets_263 : decode cX12_meets 263 = .ok (.lload 10, 2) := by decide +kernel
theorem dX12_meets_265 : decode cX12_meets 265 = .ok (.lload 16, 2) := by decide +kernel
theorem dX12_meets_267 : decode cX12_meets 267 = .ok (.lmul, 1) := by decide +kernel
theorem dX12_meets_268 : decode cX12_meets 268 = .ok (.lload 14, 2) := by decide +kernel
theorem dX12_meets_270 : decode cX12_meets 270 = .ok (.lload 12, 2) := by decide +kernel
theorem dX12_meets_272 : decode cX12_meets 272 = .ok (.lmul, 1) := by decide +kernel
theorem dX12_meets_273 : decode cX12_meets 273 = .ok (.ladd, 1) := by decide +kernel
theorem dX12_meets_274 : decode cX12_meets 274 = .ok (.lstore 22, 2) := by decide +kernel
theorem dX12_meets_276 : decode cX12_meets 276 = .ok (.lload 20, 2) := by decide +kernel
theorem dX12_meets_278 : decode cX12_meets 278 = .ok (.lconst 0, 1) := by decide +kernel
theorem dX12_meets_279 : decode cX12_meets 279 = .ok (.lcmp, 1) := by decide +kernel
theorem dX12_meets_280 : decode cX12_meets 280 = .ok (.ifCond .ge 13, 3) := by decide +kernel
theorem dX12_meets_283 : decode cX12_meets 283 = .ok (.lload 20, 2) := by decide +kernel
theorem dX12_meets_285 : decode cX12_meets 285 = .ok (.lneg, 1) := by decide +kernel
theorem dX12_meets_286 : decode cX12_meets 286 = .ok (.lstore 20, 2) := by decide +kernel
theorem dX12_meets_288 : decode cX12_meets 288 = .ok (.lload 22, 2) := by decide +kernel
theorem dX12_meets_290 : decode cX12_meets 290 = .ok (.lneg, 1) := by decide +kernel
theorem dX12_meets_291 : decode cX12_meets 291 = .ok (.lstore 22, 2) := by decide +kernel
theorem dX12_meets_293 : decode cX12_meets 293 = .ok (.lload 22, 2) := by decide +kernel
theorem dX12_meets_295 : decode cX12_meets 295 = .ok (.lconst 0, 1) := by decide +kernel
theorem dX12_meets_296 : decode cX12_meets 296 = .ok (.lcmp, 1) := by decide +kernel
theorem dX12_meets_297 : decode cX12_meets 297 = .ok (.ifCond .lt 14, 3) := by decide +kernel
theorem dX12_meets_300 : decode cX12_meets 300 = .ok (.lload 22, 2) := by decide +kernel
theorem dX12_meets_302 : decode cX12_meets 302 = .ok (.lload 18, 2) := by decide +kernel
theorem dX12_meets_304 : decode cX12_meets 304 = .ok (.lload 20, 2) := by decide +kernel
theorem dX12_meets_306 : decode cX12_meets 306 = .ok (.lmul, 1) := by decide +kernel
theorem dX12_meets_307 : decode cX12_meets 307 = .ok (.lcmp, 1) := by decide +kernel
theorem dX12_meets_308 : decode cX12_meets 308 = .ok (.ifCond .le 5, 3) := by decide +kernel
theorem dX12_meets_311 : decode cX12_meets 311 = .ok (.iconst 0, 1) := by decide +kernel
theorem dX12_meets_312 : decode cX12_meets 312 = .ok (.ireturn, 1) := by decide +kernel
theorem dX12_meets_313 : decode cX12_meets 313 = .ok (.aload_n 0, 1) := by decide +kernel
theorem dX12_meets_314 : decode cX12_meets 314 = .ok (.lload 22, 2) := by decide +kernel
theorem dX12_meets_316 : decode cX12_meets 316 = .ok (.putfield 137, 3) := by decide +kernel
theorem dX12_meets_319 : decode cX12_meets 319 = .ok (.aload_n 0, 1) := by decide +kernel
theorem dX12_meets_320 : decode cX12_meets 320 = .ok (.lload 18, 2) := by decide +kernel
theorem dX12_meets_322 : decode cX12_meets 322 = .ok (.lload 20, 2) := by decide +kernel
theorem dX12_meets_324 : decode cX12_meets 324 = .ok (.lmul, 1) := by decide +kernel
theorem dX12_meets_325 : decode cX12_meets 325 = .ok (.putfield 140, 3) := by decide +kernel
theorem dX12_meets_328 : decode cX12_meets 328 = .ok (.aload_n 0, 1) := by decide +kernel
theorem dX12_meets_329 : decode cX12_meets 329 = .ok (.ldc2_w 108, 3) := by decide +kernel
theorem dX12_meets_332 : decode cX12_meets 332 = .ok (.aload_n 0, 1) := by decide +kernel
theorem dX12_meets_333 : decode cX12_meets 333 = .ok (.getfield 15, 3) := by decide +kernel
theorem dX12_meets_336 : decode cX12_meets 336 = .ok (.i2l, 1) := by decide +kernel
theorem dX12_meets_337 : decode cX12_meets 337 = .ok (.lmul, 1) := by decide +kernel
theorem dX12_meets_338 : decode cX12_meets 338 = .ok (.aload_n 0, 1) := by decide +kernel
theorem dX12_meets_339 : decode cX12_meets 339 = .ok (.getfield 140, 3) := by decide +kernel
theorem dX12_meets_342 : decode cX12_meets 342 = .ok (.lmul, 1) := by decide +kernel
theorem dX12_meets_343 : decode cX12_meets 343 = .ok (.lload 6, 2) := by decide +kernel
theorem dX12_meets_345 : decode cX12_meets 345 = .ok (.lload 22, 2) := by decide +kernel
theorem dX12_meets_347 : decode cX12_meets 347 = .ok (.lmul, 1) := by decide +kernel
theorem dX12_meets_348 : decode cX12_meets 348 = .ok (.ladd, 1) := by decide +kernel
theorem dX12_meets_349 : decode cX12_meets 349 = .ok (.putfield 143, 3) := by decide +kernel
theorem dX12_meets_352 : decode cX12_meets 352 = .ok (.aload_n 0, 1) := by decide +kernel
theorem dX12_meets_353 : decode cX12_meets 353 = .ok (.ldc2_w 108, 3) := by decide +kernel
theorem dX12_meets_356 : decode cX12_meets 356 = .ok (.aload_n 0, 1) := by decide +kernel
theorem dX12_meets_357 : decode cX12_meets 357 = .ok (.getfield 19, 3) := by decide +kernel
theorem dX12_meets_360 : decode cX12_meets 360 = .ok (.i2l, 1) := by decide +kernel
theorem dX12_meets_361 : decode cX12_meets 361 = .ok (.lmul, 1) := by decide +kernel
theorem dX12_meets_362 : decode cX12_meets 362 = .ok (.aload_n 0, 1) := by decide +kernel
theorem dX12_meets_363 : decode cX12_meets 363 = .ok (.getfield 140, 3) := by decide +kernel
theorem dX12_meets_366 : decode cX12_meets 366 = .ok (.lmul, 1) := by decide +kernel
theorem dX12_meets_367 : decode cX12_meets 367 = .ok (.lload 8, 2) := by decide +kernel
theorem dX12_meets_369 : decode cX12_meets 369 = .ok (.lload 22, 2) := by decide +kernel
theorem dX12_meets_371 : decode cX12_meets 371 = .ok (.lmul, 1) := by decide +kernel
theorem dX12_meets_372 : decode cX12_meets 372 = .ok (.ladd, 1) := by decide +kernel
theorem dX12_meets_373 : decode cX12_meets 373 = .ok (.putfield 146, 3) := by decide +kernel
theorem dX12_meets_376 : decode cX12_meets 376 = .ok (.iconst 1, 1) := by decide +kernel
theorem dX12_meets_377 : decode cX12_meets 377 = .ok (.ireturn, 1) := by decide +kernel
theorem dX12_sign_0 : decode cX12_sign 0 = .ok (.lload_n 0, 1) := by decide +kernel
theorem dX12_sign_1 : decode cX12_sign 1 = .ok (.lconst 0, 1) := by decide +kernel
theorem dX12_sign_2 : decode cX12_sign 2 = .ok (.lcmp, 1) := by decide +kernel
theorem dX12_sign_3 : decode cX12_sign 3 = .ok (.ifCond .le 7, 3) := by decide +kernel
theorem dX12_sign_6 : decode cX12_sign 6 = .ok (.iconst 1, 1) := by decide +kernel
theorem dX12_sign_7 : decode cX12_sign 7 = .ok (.goto 14, 3) := by decide +kernel
theorem dX12_sign_10 : decode cX12_sign 10 = .ok (.lload_n 0, 1) := by decide +kernel
theorem dX12_sign_11 : decode cX12_sign 11 = .ok (.lconst 0, 1) := by decide +kernel
theorem dX12_sign_12 : decode cX12_sign 12 = .ok (.lcmp, 1) := by decide +kernel
theorem dX12_sign_13 : decode cX12_sign 13 = .ok (.ifCond .ge 7, 3) := by decide +kernel
theorem dX12_sign_16 : decode cX12_sign 16 = .ok (.iconst (-1), 1) := by decide +kernel
theorem dX12_sign_17 : decode cX12_sign 17 = .ok (.goto 4, 3) := by decide +kernel
theorem dX12_sign_20 : decode cX12_sign 20 = .ok (.iconst 0, 1) := by decide +kernel
theorem dX12_sign_21 : decode cX12_sign 21 = .ok (.ireturn, 1) := by decide +kernel
theorem dX12_wallY_0 : decode cX12_wallY 0 = .ok (.ldc2_w 108, 3) := by decide +kernel
theorem dX12_wallY_3 : decode cX12_wallY 3 = .ok (.iload_n 2, 1) := by decide +kernel
theorem dX12_wallY_4 : decode cX12_wallY 4 = .ok (.ifCond .eq 12, 3) := by decide +kernel
theorem dX12_wallY_7 : decode cX12_wallY 7 = .ok (.aload_n 0, 1) := by decide +kernel
theorem dX12_wallY_8 : decode cX12_wallY 8 = .ok (.getfield 72, 3) := by decide +kernel
theorem dX12_wallY_11 : decode cX12_wallY 11 = .ok (.iload_n 1, 1) := by decide +kernel
theorem dX12_wallY_12 : decode cX12_wallY 12 = .ok (.iaload, 1) := by decide +kernel
theorem dX12_wallY_13 : decode cX12_wallY 13 = .ok (.goto 9, 3) := by decide +kernel
theorem dX12_wallY_16 : decode cX12_wallY 16 = .ok (.aload_n 0, 1) := by decide +kernel
theorem dX12_wallY_17 : decode cX12_wallY 17 = .ok (.getfield 66, 3) := by decide +kernel
theorem dX12_wallY_20 : decode cX12_wallY 20 = .ok (.iload_n 1, 1) := by decide +kernel
theorem dX12_wallY_21 : decode cX12_wallY 21 = .ok (.iaload, 1) := by decide +kernel
theorem dX12_wallY_22 : decode cX12_wallY 22 = .ok (.aload_n 0, 1) := by decide +kernel
theorem dX12_wallY_23 : decode cX12_wallY 23 = .ok (.getfield 75, 3) := by decide +kernel
theorem dX12_wallY_26 : decode cX12_wallY 26 = .ok (.iload_n 1, 1) := by decide +kernel
theorem dX12_wallY_27 : decode cX12_wallY 27 = .ok (.baload, 1) := by decide +kernel
theorem dX12_wallY_28 : decode cX12_wallY 28 = .ok (.ifCond .eq 10, 3) := by decide +kernel
theorem dX12_wallY_31 : decode cX12_wallY 31 = .ok (.aload_n 0, 1) := by decide +kernel
theorem dX12_wallY_32 : decode cX12_wallY 32 = .ok (.getfield 46, 3) := by decide +kernel
theorem dX12_wallY_35 : decode cX12_wallY 35 = .ok (.goto 4, 3) := by decide +kernel
theorem dX12_wallY_38 : decode cX12_wallY 38 = .ok (.iconst 0, 1) := by decide +kernel
theorem dX12_wallY_39 : decode cX12_wallY 39 = .ok (.isub, 1) := by decide +kernel
theorem dX12_wallY_40 : decode cX12_wallY 40 = .ok (.i2l, 1) := by decide +kernel
theorem dX12_wallY_41 : decode cX12_wallY 41 = .ok (.lmul, 1) := by decide +kernel
theorem dX12_wallY_42 : decode cX12_wallY 42 = .ok (.lreturn, 1) := by decide +kernel
theorem dX12_less_0 : decode cX12_less 0 = .ok (.lload_n 0, 1) := by decide +kernel
theorem dX12_less_1 : decode cX12_less 1 = .ok (.lload_n 2, 1) := by decide +kernel
theorem dX12_less_2 : decode cX12_less 2 = .ok (.lcmp, 1) := by decide +kernel
theorem dX12_less_3 : decode cX12_less 3 = .ok (.ifCond .ge 7, 3) := by decide +kernel
theorem dX12_less_6 : decode cX12_less 6 = .ok (.lload_n 0, 1) := by decide +kernel
theorem dX12_less_7 : decode cX12_less 7 = .ok (.goto 4, 3) := by decide +kernel
theorem dX12_less_10 : decode cX12_less 10 = .ok (.lload_n 2, 1) := by decide +kernel
theorem dX12_less_11 : decode cX12_less 11 = .ok (.lreturn, 1) := by decide +kernel
theorem dX12_more_0 : decode cX12_more 0 = .ok (.lload_n 0, 1) := by decide +kernel
theorem dX12_more_1 : decode cX12_more 1 = .ok (.lload_n 2, 1) := by decide +kernel
theorem dX12_more_2 : decode cX12_more 2 = .ok (.lcmp, 1) := by decide +kernel
theorem dX12_more_3 : decode cX12_more 3 = .ok (.ifCond .le 7, 3) := by decide +kernel
theorem dX12_more_6 : decode cX12_more 6 = .ok (.lload_n 0, 1) := by decide +kernel
theorem dX12_more_7 : decode cX12_more 7 = .ok (.goto 4, 3) := by decide +kernel
theorem dX12_more_10 : decode cX12_more 10 = .ok (.lload_n 2, 1) := by decide +kernel
theorem dX12_more_11 : decode cX12_more 11 = .ok (.lreturn, 1) := by decide +kernel
theorem dX12_stops_0 : decode cX12_stops 0 = .ok (.ldc2_w 108, 3) := by decide +kernel
theorem dX12_stops_3 : decode cX12_stops 3 = .ok (.aload_n 0, 1) := by decide +kernel
theorem dX12_stops_4 : decode cX12_stops 4 = .ok (.getfield 63, 3) := by decide +kernel
theorem dX12_stops_7 : decode cX12_stops 7 = .ok (.iload_n 1, 1) := by decide +kernel
theorem dX12_stops_8 : decode cX12_stops 8 = .ok (.iaload, 1) := by decide +kernel
theorem dX12_stops_9 : decode cX12_stops 9 = .ok (.i2l, 1) := by decide +kernel
theorem dX12_stops_10 : decode cX12_stops 10 = .ok (.lmul, 1) := by decide +kernel
theorem dX12_stops_11 : decode cX12_stops 11 = .ok (.lstore 6, 2) := by decide +kernel
theorem dX12_stops_13 : decode cX12_stops 13 = .ok (.aload_n 0, 1) := by decide +kernel
theorem dX12_stops_14 : decode cX12_stops 14 = .ok (.iload_n 1, 1) := by decide +kernel
theorem dX12_stops_15 : decode cX12_stops 15 = .ok (.iconst 0, 1) := by decide +kernel
theorem dX12_stops_16 : decode cX12_stops 16 = .ok (.invokevirtual 149, 3) := by decide +kernel
theorem dX12_stops_19 : decode cX12_stops 19 = .ok (.lstore 8, 2) := by decide +kernel
theorem dX12_stops_21 : decode cX12_stops 21 = .ok (.ldc2_w 108, 3) := by decide +kernel
theorem dX12_stops_24 : decode cX12_stops 24 = .ok (.aload_n 0, 1) := by decide +kernel
theorem dX12_stops_25 : decode cX12_stops 25 = .ok (.getfield 69, 3) := by decide +kernel
theorem dX12_stops_28 : decode cX12_stops 28 = .ok (.iload_n 1, 1) := by decide +kernel
theorem dX12_stops_29 : decode cX12_stops 29 = .ok (.iaload, 1) := by decide +kernel
theorem dX12_stops_30 : decode cX12_stops 30 = .ok (.i2l, 1) := by decide +kernel
theorem dX12_stops_31 : decode cX12_stops 31 = .ok (.lmul, 1) := by decide +kernel
theorem dX12_stops_32 : decode cX12_stops 32 = .ok (.lstore 10, 2) := by decide +kernel
theorem dX12_stops_34 : decode cX12_stops 34 = .ok (.aload_n 0, 1) := by decide +kernel
theorem dX12_stops_35 : decode cX12_stops 35 = .ok (.iload_n 1, 1) := by decide +kernel
theorem dX12_stops_36 : decode cX12_stops 36 = .ok (.iconst 1, 1) := by decide +kernel
theorem dX12_stops_37 : decode cX12_stops 37 = .ok (.invokevirtual 149, 3) := by decide +kernel
theorem dX12_stops_40 : decode cX12_stops 40 = .ok (.lstore 12, 2) := by decide +kernel
theorem dX12_stops_42 : decode cX12_stops 42 = .ok (.aload_n 0, 1) := by decide +kernel
theorem dX12_stops_43 : decode cX12_stops 43 = .ok (.getfield 143, 3) := by decide +kernel
theorem dX12_stops_46 : decode cX12_stops 46 = .ok (.lload_n 2, 1) := by decide +kernel
theorem dX12_stops_47 : decode cX12_stops 47 = .ok (.aload_n 0, 1) := by decide +kernel
theorem dX12_stops_48 : decode cX12_stops 48 = .ok (.getfield 140, 3) := by decide +kernel
theorem dX12_stops_51 : decode cX12_stops 51 = .ok (.lmul, 1) := by decide +kernel
theorem dX12_stops_52 : decode cX12_stops 52 = .ok (.lsub, 1) := by decide +kernel
theorem dX12_stops_53 : decode cX12_stops 53 = .ok (.lstore 14, 2) := by decide +kernel
theorem dX12_stops_55 : decode cX12_stops 55 = .ok (.aload_n 0, 1) := by decide +kernel
theorem dX12_stops_56 : decode cX12_stops 56 = .ok (.getfield 146, 3) := by decide +kernel
theorem dX12_stops_59 : decode cX12_stops 59 = .ok (.lload 4, 2) := by decide +kernel
theorem dX12_stops_61 : decode cX12_stops 61 = .ok (.aload_n 0, 1) := by decide +kernel
theorem dX12_stops_62 : decode cX12_stops 62 = .ok (.getfield 140, 3) := by decide +kernel
theorem dX12_stops_65 : decode cX12_stops 65 = .ok (.lmul, 1) := by decide +kernel
theorem dX12_stops_66 : decode cX12_stops 66 = .ok (.lsub, 1) := by decide +kernel
theorem dX12_stops_67 : decode cX12_stops 67 = .ok (.lstore 16, 2) := by decide +kernel
theorem dX12_stops_69 : decode cX12_stops 69 = .ok (.lload 14, 2) := by decide +kernel
theorem dX12_stops_71 : decode cX12_stops 71 = .ok (.lload 8, 2) := by decide +kernel
theorem dX12_stops_73 : decode cX12_stops 73 = .ok (.lload 4, 2) := by decide +kernel
theorem dX12_stops_75 : decode cX12_stops 75 = .ok (.lsub, 1) := by decide +kernel
theorem dX12_stops_76 : decode cX12_stops 76 = .ok (.lmul, 1) := by decide +kernel
theorem dX12_stops_77 : decode cX12_stops 77 = .ok (.lload 16, 2) := by decide +kernel
theorem dX12_stops_79 : decode cX12_stops 79 = .ok (.lload 6, 2) := by decide +kernel
theorem dX12_stops_81 : decode cX12_stops 81 = .ok (.lload_n 2, 1) := by decide +kernel
theorem dX12_stops_82 : decode cX12_stops 82 = .ok (.lsub, 1) := by decide +kernel
theorem dX12_stops_83 : decode cX12_stops 83 = .ok (.lmul, 1) := by decide +kernel
theorem dX12_stops_84 : decode cX12_stops 84 = .ok (.lsub, 1) := by decide +kernel
theorem dX12_stops_85 : decode cX12_stops 85 = .ok (.invokestatic 153, 3) := by decide +kernel
theorem dX12_stops_88 : decode cX12_stops 88 = .ok (.istore 18, 2) := by decide +kernel
theorem dX12_stops_90 : decode cX12_stops 90 = .ok (.lload 14, 2) := by decide +kernel
theorem dX12_stops_92 : decode cX12_stops 92 = .ok (.lload 12, 2) := by decide +kernel
theorem dX12_stops_94 : decode cX12_stops 94 = .ok (.lload 4, 2) := by decide +kernel
theorem dX12_stops_96 : decode cX12_stops 96 = .ok (.lsub, 1) := by decide +kernel
theorem dX12_stops_97 : decode cX12_stops 97 = .ok (.lmul, 1) := by decide +kernel
theorem dX12_stops_98 : decode cX12_stops 98 = .ok (.lload 16, 2) := by decide +kernel
theorem dX12_stops_100 : decode cX12_stops 100 = .ok (.lload 10, 2) := by decide +kernel
theorem dX12_stops_102 : decode cX12_stops 102 = .ok (.lload_n 2, 1) := by decide +kernel
theorem dX12_stops_103 : decode cX12_stops 103 = .ok (.lsub, 1) := by decide +kernel
theorem dX12_stops_104 : decode cX12_stops 104 = .ok (.lmul, 1) := by decide +kernel
theorem dX12_stops_105 : decode cX12_stops 105 = .ok (.lsub, 1) := by decide +kernel
theorem dX12_stops_106 : decode cX12_stops 106 = .ok (.invokestatic 153, 3) := by decide +kernel
theorem dX12_stops_109 : decode cX12_stops 109 = .ok (.istore 19, 2) := by decide +kernel
theorem dX12_stops_111 : decode cX12_stops 111 = .ok (.iload 18, 2) := by decide +kernel
theorem dX12_stops_113 : decode cX12_stops 113 = .ok (.iload 19, 2) := by decide +kernel
theorem dX12_stops_115 : decode cX12_stops 115 = .ok (.imul, 1) := by decide +kernel
theorem dX12_stops_116 : decode cX12_stops 116 = .ok (.ifCond .le 5, 3) := by decide +kernel
theorem dX12_stops_119 : decode cX12_stops 119 = .ok (.iconst 0, 1) := by decide +kernel
theorem dX12_stops_120 : decode cX12_stops 120 = .ok (.ireturn, 1) := by decide +kernel
theorem dX12_stops_121 : decode cX12_stops 121 = .ok (.lload 10, 2) := by decide +kernel
theorem dX12_stops_123 : decode cX12_stops 123 = .ok (.lload 6, 2) := by decide +kernel
theorem dX12_stops_125 : decode cX12_stops 125 = .ok (.lsub, 1) := by decide +kernel
theorem dX12_stops_126 : decode cX12_stops 126 = .ok (.lstore 20, 2) := by decide +kernel
theorem dX12_stops_128 : decode cX12_stops 128 = .ok (.lload 12, 2) := by decide +kernel
theorem dX12_stops_130 : decode cX12_stops 130 = .ok (.lload 8, 2) := by decide +kernel
theorem dX12_stops_132 : decode cX12_stops 132 = .ok (.lsub, 1) := by decide +kernel
theorem dX12_stops_133 : decode cX12_stops 133 = .ok (.lstore 22, 2) := by decide +kernel
theorem dX12_stops_135 : decode cX12_stops 135 = .ok (.iload 18, 2) := by decide +kernel
theorem dX12_stops_137 : decode cX12_stops 137 = .ok (.ifCond .ne 8, 3) := by decide +kernel
theorem dX12_stops_140 : decode cX12_stops 140 = .ok (.iload 19, 2) := by decide +kernel
theorem dX12_stops_142 : decode cX12_stops 142 = .ok (.ifCond .eq 74, 3) := by decide +kernel
theorem dX12_stops_145 : decode cX12_stops 145 = .ok (.lload 20, 2) := by decide +kernel
theorem dX12_stops_147 : decode cX12_stops 147 = .ok (.lload 4, 2) := by decide +kernel
theorem dX12_stops_149 : decode cX12_stops 149 = .ok (.lload 8, 2) := by decide +kernel
theorem dX12_stops_151 : decode cX12_stops 151 = .ok (.lsub, 1) := by decide +kernel
theorem dX12_stops_152 : decode cX12_stops 152 = .ok (.lmul, 1) := by decide +kernel
theorem dX12_stops_153 : decode cX12_stops 153 = .ok (.lload 22, 2) := by decide +kernel
theorem dX12_stops_155 : decode cX12_stops 155 = .ok (.lload_n 2, 1) := by decide +kernel
theorem dX12_stops_156 : decode cX12_stops 156 = .ok (.lload 6, 2) := by decide +kernel
theorem dX12_stops_158 : decode cX12_stops 158 = .ok (.lsub, 1) := by decide +kernel
theorem dX12_stops_159 : decode cX12_stops 159 = .ok (.lmul, 1) := by decide +kernel
theorem dX12_stops_160 : decode cX12_stops 160 = .ok (.lsub, 1) := by decide +kernel
theorem dX12_stops_161 : decode cX12_stops 161 = .ok (.invokestatic 153, 3) := by decide +kernel
theorem dX12_stops_164 : decode cX12_stops 164 = .ok (.istore 24, 2) := by decide +kernel
theorem dX12_stops_166 : decode cX12_stops 166 = .ok (.lload 20, 2) := by decide +kernel
theorem dX12_stops_168 : decode cX12_stops 168 = .ok (.aload_n 0, 1) := by decide +kernel
theorem dX12_stops_169 : decode cX12_stops 169 = .ok (.getfield 146, 3) := by decide +kernel
theorem dX12_stops_172 : decode cX12_stops 172 = .ok (.lload 8, 2) := by decide +kernel
theorem dX12_stops_174 : decode cX12_stops 174 = .ok (.aload_n 0, 1) := by decide +kernel
theorem dX12_stops_175 : decode cX12_stops 175 = .ok (.getfield 140, 3) := by decide +kernel
theorem dX12_stops_178 : decode cX12_stops 178 = .ok (.lmul, 1) := by decide +kernel
theorem dX12_stops_179 : decode cX12_stops 179 = .ok (.lsub, 1) := by decide +kernel
theorem dX12_stops_180 : decode cX12_stops 180 = .ok (.lmul, 1) := by decide +kernel
theorem dX12_stops_181 : decode cX12_stops 181 = .ok (.lload 22, 2) := by decide +kernel
theorem dX12_stops_183 : decode cX12_stops 183 = .ok (.aload_n 0, 1) := by decide +kernel
theorem dX12_stops_184 : decode cX12_stops 184 = .ok (.getfield 143, 3) := by decide +kernel
theorem dX12_stops_187 : decode cX12_stops 187 = .ok (.lload 6, 2) := by decide +kernel
theorem dX12_stops_189 : decode cX12_stops 189 = .ok (.aload_n 0, 1) := by decide +kernel
theorem dX12_stops_190 : decode cX12_stops 190 = .ok (.getfield 140, 3) := by decide +kernel
theorem dX12_stops_193 : decode cX12_stops 193 = .ok (.lmul, 1) := by decide +kernel
theorem dX12_stops_194 : decode cX12_stops 194 = .ok (.lsub, 1) := by decide +kernel
theorem dX12_stops_195 : decode cX12_stops 195 = .ok (.lmul, 1) := by decide +kernel
theorem dX12_stops_196 : decode cX12_stops 196 = .ok (.lsub, 1) := by decide +kernel
theorem dX12_stops_197 : decode cX12_stops 197 = .ok (.invokestatic 153, 3) := by decide +kernel
theorem dX12_stops_200 : decode cX12_stops 200 = .ok (.istore 25, 2) := by decide +kernel
theorem dX12_stops_202 : decode cX12_stops 202 = .ok (.iload 24, 2) := by decide +kernel
theorem dX12_stops_204 : decode cX12_stops 204 = .ok (.iload 25, 2) := by decide +kernel
theorem dX12_stops_206 : decode cX12_stops 206 = .ok (.imul, 1) := by decide +kernel
theorem dX12_stops_207 : decode cX12_stops 207 = .ok (.ifCond .ge 7, 3) := by decide +kernel
theorem dX12_stops_210 : decode cX12_stops 210 = .ok (.iconst 1, 1) := by decide +kernel
theorem dX12_stops_211 : decode cX12_stops 211 = .ok (.goto 4, 3) := by decide +kernel
theorem dX12_stops_214 : decode cX12_stops 214 = .ok (.iconst 0, 1) := by decide +kernel
theorem dX12_stops_215 : decode cX12_stops 215 = .ok (.ireturn, 1) := by decide +kernel
theorem dX12_stops_216 : decode cX12_stops 216 = .ok (.lload 14, 2) := by decide +kernel
theorem dX12_stops_218 : decode cX12_stops 218 = .ok (.lconst 0, 1) := by decide +kernel
theorem dX12_stops_219 : decode cX12_stops 219 = .ok (.lcmp, 1) := by decide +kernel
theorem dX12_stops_220 : decode cX12_stops 220 = .ok (.ifCond .eq 7, 3) := by decide +kernel
theorem dX12_stops_223 : decode cX12_stops 223 = .ok (.iconst 1, 1) := by decide +kernel
theorem dX12_stops_224 : decode cX12_stops 224 = .ok (.goto 4, 3) := by decide +kernel
theorem dX12_stops_227 : decode cX12_stops 227 = .ok (.iconst 0, 1) := by decide +kernel
theorem dX12_stops_228 : decode cX12_stops 228 = .ok (.istore 24, 2) := by decide +kernel
theorem dX12_stops_230 : decode cX12_stops 230 = .ok (.iload 24, 2) := by decide +kernel
theorem dX12_stops_232 : decode cX12_stops 232 = .ok (.ifCond .eq 7, 3) := by decide +kernel
theorem dX12_stops_235 : decode cX12_stops 235 = .ok (.lload_n 2, 1) := by decide +kernel
theorem dX12_stops_236 : decode cX12_stops 236 = .ok (.goto 5, 3) := by decide +kernel
theorem dX12_stops_239 : decode cX12_stops 239 = .ok (.lload 4, 2) := by decide +kernel
theorem dX12_stops_241 : decode cX12_stops 241 = .ok (.aload_n 0, 1) := by decide +kernel
theorem dX12_stops_242 : decode cX12_stops 242 = .ok (.getfield 140, 3) := by decide +kernel
theorem dX12_stops_245 : decode cX12_stops 245 = .ok (.lmul, 1) := by decide +kernel
theorem dX12_stops_246 : decode cX12_stops 246 = .ok (.lstore 25, 2) := by decide +kernel
theorem dX12_stops_248 : decode cX12_stops 248 = .ok (.iload 24, 2) := by decide +kernel
theorem dX12_stops_250 : decode cX12_stops 250 = .ok (.ifCond .eq 10, 3) := by decide +kernel
theorem dX12_stops_253 : decode cX12_stops 253 = .ok (.aload_n 0, 1) := by decide +kernel
theorem dX12_stops_254 : decode cX12_stops 254 = .ok (.getfield 143, 3) := by decide +kernel
theorem dX12_stops_257 : decode cX12_stops 257 = .ok (.goto 7, 3) := by decide +kernel
theorem dX12_stops_260 : decode cX12_stops 260 = .ok (.aload_n 0, 1) := by decide +kernel
theorem dX12_stops_261 : decode cX12_stops 261 = .ok (.getfield 146, 3) := by decide +kernel
theorem dX12_stops_264 : decode cX12_stops 264 = .ok (.lstore 27, 2) := by decide +kernel
theorem dX12_stops_266 : decode cX12_stops 266 = .ok (.iload 24, 2) := by decide +kernel
theorem dX12_stops_268 : decode cX12_stops 268 = .ok (.ifCond .eq 8, 3) := by decide +kernel
theorem dX12_stops_271 : decode cX12_stops 271 = .ok (.lload 6, 2) := by decide +kernel
theorem dX12_stops_273 : decode cX12_stops 273 = .ok (.goto 5, 3) := by decide +kernel
theorem dX12_stops_276 : decode cX12_stops 276 = .ok (.lload 8, 2) := by decide +kernel
theorem dX12_stops_278 : decode cX12_stops 278 = .ok (.aload_n 0, 1) := by decide +kernel
theorem dX12_stops_279 : decode cX12_stops 279 = .ok (.getfield 140, 3) := by decide +kernel
theorem dX12_stops_282 : decode cX12_stops 282 = .ok (.lmul, 1) := by decide +kernel
theorem dX12_stops_283 : decode cX12_stops 283 = .ok (.lstore 29, 2) := by decide +kernel
theorem dX12_stops_285 : decode cX12_stops 285 = .ok (.iload 24, 2) := by decide +kernel
theorem dX12_stops_287 : decode cX12_stops 287 = .ok (.ifCond .eq 8, 3) := by decide +kernel
theorem dX12_stops_290 : decode cX12_stops 290 = .ok (.lload 10, 2) := by decide +kernel
theorem dX12_stops_292 : decode cX12_stops 292 = .ok (.goto 5, 3) := by decide +kernel
theorem dX12_stops_295 : decode cX12_stops 295 = .ok (.lload 12, 2) := by decide +kernel
theorem dX12_stops_297 : decode cX12_stops 297 = .ok (.aload_n 0, 1) := by decide +kernel
theorem dX12_stops_298 : decode cX12_stops 298 = .ok (.getfield 140, 3) := by decide +kernel
theorem dX12_stops_301 : decode cX12_stops 301 = .ok (.lmul, 1) := by decide +kernel
theorem dX12_stops_302 : decode cX12_stops 302 = .ok (.lstore 31, 2) := by decide +kernel
theorem dX12_stops_304 : decode cX12_stops 304 = .ok (.lload 29, 2) := by decide +kernel
theorem dX12_stops_306 : decode cX12_stops 306 = .ok (.lload 31, 2) := by decide +kernel
theorem dX12_stops_308 : decode cX12_stops 308 = .ok (.invokestatic 157, 3) := by decide +kernel
theorem dX12_stops_311 : decode cX12_stops 311 = .ok (.lload 25, 2) := by decide +kernel
theorem dX12_stops_313 : decode cX12_stops 313 = .ok (.lload 27, 2) := by decide +kernel
theorem dX12_stops_315 : decode cX12_stops 315 = .ok (.invokestatic 160, 3) := by decide +kernel
theorem dX12_stops_318 : decode cX12_stops 318 = .ok (.lcmp, 1) := by decide +kernel
theorem dX12_stops_319 : decode cX12_stops 319 = .ok (.ifCond .ge 25, 3) := by decide +kernel
theorem dX12_stops_322 : decode cX12_stops 322 = .ok (.lload 29, 2) := by decide +kernel
theorem dX12_stops_324 : decode cX12_stops 324 = .ok (.lload 31, 2) := by decide +kernel
theorem dX12_stops_326 : decode cX12_stops 326 = .ok (.invokestatic 160, 3) := by decide +kernel
theorem dX12_stops_329 : decode cX12_stops 329 = .ok (.lload 25, 2) := by decide +kernel
theorem dX12_stops_331 : decode cX12_stops 331 = .ok (.lload 27, 2) := by decide +kernel
theorem dX12_stops_333 : decode cX12_stops 333 = .ok (.invokestatic 157, 3) := by decide +kernel
theorem dX12_stops_336 : decode cX12_stops 336 = .ok (.lcmp, 1) := by decide +kernel
theorem dX12_stops_337 : decode cX12_stops 337 = .ok (.ifCond .le 7, 3) := by decide +kernel
theorem dX12_stops_340 : decode cX12_stops 340 = .ok (.iconst 1, 1) := by decide +kernel
theorem dX12_stops_341 : decode cX12_stops 341 = .ok (.goto 4, 3) := by decide +kernel
theorem dX12_stops_344 : decode cX12_stops 344 = .ok (.iconst 0, 1) := by decide +kernel
theorem dX12_stops_345 : decode cX12_stops 345 = .ok (.ireturn, 1) := by decide +kernel
theorem dX12_stopping_0 : decode cX12_stopping 0 = .ok (.iconst 0, 1) := by decide +kernel
theorem dX12_stopping_1 : decode cX12_stopping 1 = .ok (.istore 5, 2) := by decide +kernel
theorem dX12_stopping_3 : decode cX12_stopping 3 = .ok (.iconst 0, 1) := by decide +kernel
theorem dX12_stopping_4 : decode cX12_stopping 4 = .ok (.istore 6, 2) := by decide +kernel
theorem dX12_stopping_6 : decode cX12_stopping 6 = .ok (.iload 6, 2) := by decide +kernel
theorem dX12_stopping_8 : decode cX12_stopping 8 = .ok (.bipush 12, 2) := by decide +kernel
theorem dX12_stopping_10 : decode cX12_stopping 10 = .ok (.if_icmp .ge 39, 3) := by decide +kernel
theorem dX12_stopping_13 : decode cX12_stopping 13 = .ok (.aload_n 0, 1) := by decide +kernel
theorem dX12_stopping_14 : decode cX12_stopping 14 = .ok (.getfield 60, 3) := by decide +kernel
theorem dX12_stopping_17 : decode cX12_stopping 17 = .ok (.iload 6, 2) := by decide +kernel
theorem dX12_stopping_19 : decode cX12_stopping 19 = .ok (.baload, 1) := by decide +kernel
theorem dX12_stopping_20 : decode cX12_stopping 20 = .ok (.ifCond .eq 23, 3) := by decide +kernel
theorem dX12_stopping_23 : decode cX12_stopping 23 = .ok (.aload_n 0, 1) := by decide +kernel
theorem dX12_stopping_24 : decode cX12_stopping 24 = .ok (.iload 6, 2) := by decide +kernel
theorem dX12_stopping_26 : decode cX12_stopping 26 = .ok (.lload_n 1, 1) := by decide +kernel
theorem dX12_stopping_27 : decode cX12_stopping 27 = .ok (.lload_n 3, 1) := by decide +kernel
theorem dX12_stopping_28 : decode cX12_stopping 28 = .ok (.invokevirtual 163, 3) := by decide +kernel
theorem dX12_stopping_31 : decode cX12_stopping 31 = .ok (.ifCond .eq 12, 3) := by decide +kernel
theorem dX12_stopping_34 : decode cX12_stopping 34 = .ok (.iload 5, 2) := by decide +kernel
theorem dX12_stopping_36 : decode cX12_stopping 36 = .ok (.iconst 1, 1) := by decide +kernel
theorem dX12_stopping_37 : decode cX12_stopping 37 = .ok (.iload 6, 2) := by decide +kernel
theorem dX12_stopping_39 : decode cX12_stopping 39 = .ok (.ishl, 1) := by decide +kernel
theorem dX12_stopping_40 : decode cX12_stopping 40 = .ok (.ior, 1) := by decide +kernel
theorem dX12_stopping_41 : decode cX12_stopping 41 = .ok (.istore 5, 2) := by decide +kernel
theorem dX12_stopping_43 : decode cX12_stopping 43 = .ok (.iinc 6 1, 3) := by decide +kernel
theorem dX12_stopping_46 : decode cX12_stopping 46 = .ok (.goto (-40), 3) := by decide +kernel
theorem dX12_stopping_49 : decode cX12_stopping 49 = .ok (.iload 5, 2) := by decide +kernel
theorem dX12_stopping_51 : decode cX12_stopping 51 = .ok (.ireturn, 1) := by decide +kernel
theorem dX12_seesIt_0 : decode cX12_seesIt 0 = .ok (.aload_n 0, 1) := by decide +kernel
theorem dX12_seesIt_1 : decode cX12_seesIt 1 = .ok (.iload_n 1, 1) := by decide +kernel
theorem dX12_seesIt_2 : decode cX12_seesIt 2 = .ok (.lload_n 2, 1) := by decide +kernel
theorem dX12_seesIt_3 : decode cX12_seesIt 3 = .ok (.lload 4, 2) := by decide +kernel
theorem dX12_seesIt_5 : decode cX12_seesIt 5 = .ok (.invokevirtual 167, 3) := by decide +kernel
theorem dX12_seesIt_8 : decode cX12_seesIt 8 = .ok (.ifCond .eq 37, 3) := by decide +kernel
theorem dX12_seesIt_11 : decode cX12_seesIt 11 = .ok (.aload_n 0, 1) := by decide +kernel
theorem dX12_seesIt_12 : decode cX12_seesIt 12 = .ok (.aload_n 0, 1) := by decide +kernel
theorem dX12_seesIt_13 : decode cX12_seesIt 13 = .ok (.getfield 124, 3) := by decide +kernel
theorem dX12_seesIt_16 : decode cX12_seesIt 16 = .ok (.aload_n 0, 1) := by decide +kernel
theorem dX12_seesIt_17 : decode cX12_seesIt 17 = .ok (.getfield 128, 3) := by decide +kernel
theorem dX12_seesIt_20 : decode cX12_seesIt 20 = .ok (.invokevirtual 170, 3) := by decide +kernel
theorem dX12_seesIt_23 : decode cX12_seesIt 23 = .ok (.ifCond .ne 22, 3) := by decide +kernel
theorem dX12_seesIt_26 : decode cX12_seesIt 26 = .ok (.aload_n 0, 1) := by decide +kernel
theorem dX12_seesIt_27 : decode cX12_seesIt 27 = .ok (.aload_n 0, 1) := by decide +kernel
theorem dX12_seesIt_28 : decode cX12_seesIt 28 = .ok (.getfield 131, 3) := by decide +kernel
theorem dX12_seesIt_31 : decode cX12_seesIt 31 = .ok (.aload_n 0, 1) := by decide +kernel
theorem dX12_seesIt_32 : decode cX12_seesIt 32 = .ok (.getfield 134, 3) := by decide +kernel
theorem dX12_seesIt_35 : decode cX12_seesIt 35 = .ok (.invokevirtual 170, 3) := by decide +kernel
theorem dX12_seesIt_38 : decode cX12_seesIt 38 = .ok (.ifCond .ne 7, 3) := by decide +kernel
theorem dX12_seesIt_41 : decode cX12_seesIt 41 = .ok (.iconst 1, 1) := by decide +kernel
theorem dX12_seesIt_42 : decode cX12_seesIt 42 = .ok (.goto 4, 3) := by decide +kernel
theorem dX12_seesIt_45 : decode cX12_seesIt 45 = .ok (.iconst 0, 1) := by decide +kernel
theorem dX12_seesIt_46 : decode cX12_seesIt 46 = .ok (.ireturn, 1) := by decide +kernel
theorem dX12_sees_0 : decode cX12_sees 0 = .ok (.aload_n 0, 1) := by decide +kernel
theorem dX12_sees_1 : decode cX12_sees 1 = .ok (.iload_n 1, 1) := by decide +kernel
theorem dX12_sees_2 : decode cX12_sees 2 = .ok (.invokevirtual 93, 3) := by decide +kernel
theorem dX12_sees_5 : decode cX12_sees 5 = .ok (.ifCond .eq 11, 3) := by decide +kernel
theorem dX12_sees_8 : decode cX12_sees 8 = .ok (.iload_n 2, 1) := by decide +kernel
theorem dX12_sees_9 : decode cX12_sees 9 = .ok (.iload_n 3, 1) := by decide +kernel
theorem dX12_sees_10 : decode cX12_sees 10 = .ok (.invokestatic 113, 3) := by decide +kernel
theorem dX12_sees_13 : decode cX12_sees 13 = .ok (.ifCond .ne 5, 3) := by decide +kernel
theorem dX12_sees_16 : decode cX12_sees 16 = .ok (.iconst (-1), 1) := by decide +kernel
theorem dX12_sees_17 : decode cX12_sees 17 = .ok (.ireturn, 1) := by decide +kernel
theorem dX12_sees_18 : decode cX12_sees 18 = .ok (.aload_n 0, 1) := by decide +kernel
theorem dX12_sees_19 : decode cX12_sees 19 = .ok (.iload_n 1, 1) := by decide +kernel
theorem dX12_sees_20 : decode cX12_sees 20 = .ok (.ldc2_w 108, 3) := by decide +kernel
theorem dX12_sees_23 : decode cX12_sees 23 = .ok (.iload_n 2, 1) := by decide +kernel
theorem dX12_sees_24 : decode cX12_sees 24 = .ok (.i2l, 1) := by decide +kernel
theorem dX12_sees_25 : decode cX12_sees 25 = .ok (.lmul, 1) := by decide +kernel
theorem dX12_sees_26 : decode cX12_sees 26 = .ok (.ldc2_w 108, 3) := by decide +kernel
theorem dX12_sees_29 : decode cX12_sees 29 = .ok (.iload_n 3, 1) := by decide +kernel
theorem dX12_sees_30 : decode cX12_sees 30 = .ok (.i2l, 1) := by decide +kernel
theorem dX12_sees_31 : decode cX12_sees 31 = .ok (.lmul, 1) := by decide +kernel
theorem dX12_sees_32 : decode cX12_sees 32 = .ok (.invokevirtual 174, 3) := by decide +kernel
theorem dX12_sees_35 : decode cX12_sees 35 = .ok (.ifCond .eq 7, 3) := by decide +kernel
theorem dX12_sees_38 : decode cX12_sees 38 = .ok (.iconst 1, 1) := by decide +kernel
theorem dX12_sees_39 : decode cX12_sees 39 = .ok (.goto 4, 3) := by decide +kernel
theorem dX12_sees_42 : decode cX12_sees 42 = .ok (.iconst 0, 1) := by decide +kernel
theorem dX12_sees_43 : decode cX12_sees 43 = .ok (.ireturn, 1) := by decide +kernel
theorem dX12_whereMet_0 : decode cX12_whereMet 0 = .ok (.ldc2_w 177, 3) := by decide +kernel
theorem dX12_whereMet_3 : decode cX12_whereMet 3 = .ok (.aload_n 0, 1) := by decide +kernel
theorem dX12_whereMet_4 : decode cX12_whereMet 4 = .ok (.getfield 137, 3) := by decide +kernel
theorem dX12_whereMet_7 : decode cX12_whereMet 7 = .ok (.lmul, 1) := by decide +kernel
theorem dX12_whereMet_8 : decode cX12_whereMet 8 = .ok (.aload_n 0, 1) := by decide +kernel
theorem dX12_whereMet_9 : decode cX12_whereMet 9 = .ok (.getfield 140, 3) := by decide +kernel
theorem dX12_whereMet_12 : decode cX12_whereMet 12 = .ok (.ldiv, 1) := by decide +kernel
theorem dX12_whereMet_13 : decode cX12_whereMet 13 = .ok (.l2i, 1) := by decide +kernel
theorem dX12_whereMet_14 : decode cX12_whereMet 14 = .ok (.ireturn, 1) := by decide +kernel
theorem dX12_where_0 : decode cX12_where 0 = .ok (.aload_n 0, 1) := by decide +kernel
theorem dX12_where_1 : decode cX12_where 1 = .ok (.iload_n 1, 1) := by decide +kernel
theorem dX12_where_2 : decode cX12_where 2 = .ok (.invokevirtual 93, 3) := by decide +kernel
theorem dX12_where_5 : decode cX12_where 5 = .ok (.ifCond .eq 38, 3) := by decide +kernel
theorem dX12_where_8 : decode cX12_where 8 = .ok (.iload_n 2, 1) := by decide +kernel
theorem dX12_where_9 : decode cX12_where 9 = .ok (.iload_n 3, 1) := by decide +kernel
theorem dX12_where_10 : decode cX12_where 10 = .ok (.invokestatic 113, 3) := by decide +kernel
theorem dX12_where_13 : decode cX12_where 13 = .ok (.ifCond .eq 30, 3) := by decide +kernel
theorem dX12_where_16 : decode cX12_where 16 = .ok (.aload_n 0, 1) := by decide +kernel
theorem dX12_where_17 : decode cX12_where 17 = .ok (.iload_n 1, 1) := by decide +kernel
theorem dX12_where_18 : decode cX12_where 18 = .ok (.ldc2_w 108, 3) := by decide +kernel
theorem dX12_where_21 : decode cX12_where 21 = .ok (.iload_n 2, 1) := by decide +kernel
theorem dX12_where_22 : decode cX12_where 22 = .ok (.i2l, 1) := by decide +kernel
theorem dX12_where_23 : decode cX12_where 23 = .ok (.lmul, 1) := by decide +kernel
theorem dX12_where_24 : decode cX12_where 24 = .ok (.ldc2_w 108, 3) := by decide +kernel
theorem dX12_where_27 : decode cX12_where 27 = .ok (.iload_n 3, 1) := by decide +kernel
theorem dX12_where_28 : decode cX12_where 28 = .ok (.i2l, 1) := by decide +kernel
theorem dX12_where_29 : decode cX12_where 29 = .ok (.lmul, 1) := by decide +kernel
theorem dX12_where_30 : decode cX12_where 30 = .ok (.invokevirtual 167, 3) := by decide +kernel
theorem dX12_where_33 : decode cX12_where 33 = .ok (.ifCond .eq 10, 3) := by decide +kernel
theorem dX12_where_36 : decode cX12_where 36 = .ok (.aload_n 0, 1) := by decide +kernel
theorem dX12_where_37 : decode cX12_where 37 = .ok (.invokevirtual 179, 3) := by decide +kernel
theorem dX12_where_40 : decode cX12_where 40 = .ok (.goto 4, 3) := by decide +kernel
theorem dX12_where_43 : decode cX12_where 43 = .ok (.iconst (-1), 1) := by decide +kernel
theorem dX12_where_44 : decode cX12_where 44 = .ok (.ireturn, 1) := by decide +kernel
theorem dX12_blocks_0 : decode cX12_blocks 0 = .ok (.aload_n 0, 1) := by decide +kernel
theorem dX12_blocks_1 : decode cX12_blocks 1 = .ok (.iload_n 1, 1) := by decide +kernel
theorem dX12_blocks_2 : decode cX12_blocks 2 = .ok (.invokevirtual 93, 3) := by decide +kernel
theorem dX12_blocks_5 : decode cX12_blocks 5 = .ok (.ifCond .eq 42, 3) := by decide +kernel
theorem dX12_blocks_8 : decode cX12_blocks 8 = .ok (.iload_n 2, 1) := by decide +kernel
theorem dX12_blocks_9 : decode cX12_blocks 9 = .ok (.iload_n 3, 1) := by decide +kernel
theorem dX12_blocks_10 : decode cX12_blocks 10 = .ok (.invokestatic 113, 3) := by decide +kernel
theorem dX12_blocks_13 : decode cX12_blocks 13 = .ok (.ifCond .eq 34, 3) := by decide +kernel
theorem dX12_blocks_16 : decode cX12_blocks 16 = .ok (.iload 4, 2) := by decide +kernel
theorem dX12_blocks_18 : decode cX12_blocks 18 = .ok (.ifCond .eq 9, 3) := by decide +kernel
theorem dX12_blocks_21 : decode cX12_blocks 21 = .ok (.iload 4, 2) := by decide +kernel
theorem dX12_blocks_23 : decode cX12_blocks 23 = .ok (.iconst 1, 1) := by decide +kernel
theorem dX12_blocks_24 : decode cX12_blocks 24 = .ok (.if_icmp .ne 23, 3) := by decide +kernel
theorem dX12_blocks_27 : decode cX12_blocks 27 = .ok (.aload_n 0, 1) := by decide +kernel
theorem dX12_blocks_28 : decode cX12_blocks 28 = .ok (.iload_n 1, 1) := by decide +kernel
theorem dX12_blocks_29 : decode cX12_blocks 29 = .ok (.ldc2_w 108, 3) := by decide +kernel
theorem dX12_blocks_32 : decode cX12_blocks 32 = .ok (.iload_n 2, 1) := by decide +kernel
theorem dX12_blocks_33 : decode cX12_blocks 33 = .ok (.i2l, 1) := by decide +kernel
theorem dX12_blocks_34 : decode cX12_blocks 34 = .ok (.lmul, 1) := by decide +kernel
theorem dX12_blocks_35 : decode cX12_blocks 35 = .ok (.ldc2_w 108, 3) := by decide +kernel
theorem dX12_blocks_38 : decode cX12_blocks 38 = .ok (.iload_n 3, 1) := by decide +kernel
theorem dX12_blocks_39 : decode cX12_blocks 39 = .ok (.i2l, 1) := by decide +kernel
theorem dX12_blocks_40 : decode cX12_blocks 40 = .ok (.lmul, 1) := by decide +kernel
theorem dX12_blocks_41 : decode cX12_blocks 41 = .ok (.invokevirtual 167, 3) := by decide +kernel
theorem dX12_blocks_44 : decode cX12_blocks 44 = .ok (.ifCond .ne 5, 3) := by decide +kernel
theorem dX12_blocks_47 : decode cX12_blocks 47 = .ok (.iconst (-1), 1) := by decide +kernel
theorem dX12_blocks_48 : decode cX12_blocks 48 = .ok (.ireturn, 1) := by decide +kernel
theorem dX12_blocks_49 : decode cX12_blocks 49 = .ok (.iload 4, 2) := by decide +kernel
theorem dX12_blocks_51 : decode cX12_blocks 51 = .ok (.ifCond .ne 18, 3) := by decide +kernel
theorem dX12_blocks_54 : decode cX12_blocks 54 = .ok (.aload_n 0, 1) := by decide +kernel
theorem dX12_blocks_55 : decode cX12_blocks 55 = .ok (.aload_n 0, 1) := by decide +kernel
theorem dX12_blocks_56 : decode cX12_blocks 56 = .ok (.getfield 124, 3) := by decide +kernel
theorem dX12_blocks_59 : decode cX12_blocks 59 = .ok (.aload_n 0, 1) := by decide +kernel
theorem dX12_blocks_60 : decode cX12_blocks 60 = .ok (.getfield 128, 3) := by decide +kernel
theorem dX12_blocks_63 : decode cX12_blocks 63 = .ok (.invokevirtual 170, 3) := by decide +kernel
theorem dX12_blocks_66 : decode cX12_blocks 66 = .ok (.goto 15, 3) := by decide +kernel
theorem dX12_blocks_69 : decode cX12_blocks 69 = .ok (.aload_n 0, 1) := by decide +kernel
theorem dX12_blocks_70 : decode cX12_blocks 70 = .ok (.aload_n 0, 1) := by decide +kernel
theorem dX12_blocks_71 : decode cX12_blocks 71 = .ok (.getfield 131, 3) := by decide +kernel
theorem dX12_blocks_74 : decode cX12_blocks 74 = .ok (.aload_n 0, 1) := by decide +kernel
theorem dX12_blocks_75 : decode cX12_blocks 75 = .ok (.getfield 134, 3) := by decide +kernel
theorem dX12_blocks_78 : decode cX12_blocks 78 = .ok (.invokevirtual 170, 3) := by decide +kernel
theorem dX12_blocks_81 : decode cX12_blocks 81 = .ok (.ireturn, 1) := by decide +kernel
theorem dX12_showsTo_0 : decode cX12_showsTo 0 = .ok (.ldc2_w 108, 3) := by decide +kernel
theorem dX12_showsTo_3 : decode cX12_showsTo 3 = .ok (.aload_n 0, 1) := by decide +kernel
theorem dX12_showsTo_4 : decode cX12_showsTo 4 = .ok (.getfield 63, 3) := by decide +kernel
theorem dX12_showsTo_7 : decode cX12_showsTo 7 = .ok (.iload_n 1, 1) := by decide +kernel
theorem dX12_showsTo_8 : decode cX12_showsTo 8 = .ok (.iaload, 1) := by decide +kernel
theorem dX12_showsTo_9 : decode cX12_showsTo 9 = .ok (.i2l, 1) := by decide +kernel
theorem dX12_showsTo_10 : decode cX12_showsTo 10 = .ok (.lmul, 1) := by decide +kernel
theorem dX12_showsTo_11 : decode cX12_showsTo 11 = .ok (.lstore_n 3, 1) := by decide +kernel
theorem dX12_showsTo_12 : decode cX12_showsTo 12 = .ok (.aload_n 0, 1) := by decide +kernel
theorem dX12_showsTo_13 : decode cX12_showsTo 13 = .ok (.iload_n 1, 1) := by decide +kernel
theorem dX12_showsTo_14 : decode cX12_showsTo 14 = .ok (.iconst 0, 1) := by decide +kernel
theorem dX12_showsTo_15 : decode cX12_showsTo 15 = .ok (.invokevirtual 149, 3) := by decide +kernel
theorem dX12_showsTo_18 : decode cX12_showsTo 18 = .ok (.lstore 5, 2) := by decide +kernel
theorem dX12_showsTo_20 : decode cX12_showsTo 20 = .ok (.ldc2_w 108, 3) := by decide +kernel
theorem dX12_showsTo_23 : decode cX12_showsTo 23 = .ok (.aload_n 0, 1) := by decide +kernel
theorem dX12_showsTo_24 : decode cX12_showsTo 24 = .ok (.getfield 69, 3) := by decide +kernel
theorem dX12_showsTo_27 : decode cX12_showsTo 27 = .ok (.iload_n 1, 1) := by decide +kernel
theorem dX12_showsTo_28 : decode cX12_showsTo 28 = .ok (.iaload, 1) := by decide +kernel
theorem dX12_showsTo_29 : decode cX12_showsTo 29 = .ok (.i2l, 1) := by decide +kernel
theorem dX12_showsTo_30 : decode cX12_showsTo 30 = .ok (.lmul, 1) := by decide +kernel
theorem dX12_showsTo_31 : decode cX12_showsTo 31 = .ok (.lstore 7, 2) := by decide +kernel
theorem dX12_showsTo_33 : decode cX12_showsTo 33 = .ok (.aload_n 0, 1) := by decide +kernel
theorem dX12_showsTo_34 : decode cX12_showsTo 34 = .ok (.iload_n 1, 1) := by decide +kernel
theorem dX12_showsTo_35 : decode cX12_showsTo 35 = .ok (.iconst 1, 1) := by decide +kernel
theorem dX12_showsTo_36 : decode cX12_showsTo 36 = .ok (.invokevirtual 149, 3) := by decide +kernel
theorem dX12_showsTo_39 : decode cX12_showsTo 39 = .ok (.lstore 9, 2) := by decide +kernel
theorem dX12_showsTo_41 : decode cX12_showsTo 41 = .ok (.aload_n 0, 1) := by decide +kernel
theorem dX12_showsTo_42 : decode cX12_showsTo 42 = .ok (.iload_n 2, 1) := by decide +kernel
theorem dX12_showsTo_43 : decode cX12_showsTo 43 = .ok (.lload_n 3, 1) := by decide +kernel
theorem dX12_showsTo_44 : decode cX12_showsTo 44 = .ok (.lload 5, 2) := by decide +kernel
theorem dX12_showsTo_46 : decode cX12_showsTo 46 = .ok (.invokevirtual 174, 3) := by decide +kernel
theorem dX12_showsTo_49 : decode cX12_showsTo 49 = .ok (.ifCond .ne 40, 3) := by decide +kernel
theorem dX12_showsTo_52 : decode cX12_showsTo 52 = .ok (.aload_n 0, 1) := by decide +kernel
theorem dX12_showsTo_53 : decode cX12_showsTo 53 = .ok (.iload_n 2, 1) := by decide +kernel
theorem dX12_showsTo_54 : decode cX12_showsTo 54 = .ok (.lload 7, 2) := by decide +kernel
theorem dX12_showsTo_56 : decode cX12_showsTo 56 = .ok (.lload 9, 2) := by decide +kernel
theorem dX12_showsTo_58 : decode cX12_showsTo 58 = .ok (.invokevirtual 174, 3) := by decide +kernel
theorem dX12_showsTo_61 : decode cX12_showsTo 61 = .ok (.ifCond .ne 28, 3) := by decide +kernel
theorem dX12_showsTo_64 : decode cX12_showsTo 64 = .ok (.aload_n 0, 1) := by decide +kernel
theorem dX12_showsTo_65 : decode cX12_showsTo 65 = .ok (.iload_n 2, 1) := by decide +kernel
theorem dX12_showsTo_66 : decode cX12_showsTo 66 = .ok (.lload_n 3, 1) := by decide +kernel
theorem dX12_showsTo_67 : decode cX12_showsTo 67 = .ok (.lload 7, 2) := by decide +kernel
theorem dX12_showsTo_69 : decode cX12_showsTo 69 = .ok (.ladd, 1) := by decide +kernel
theorem dX12_showsTo_70 : decode cX12_showsTo 70 = .ok (.ldc2_w 108, 3) := by decide +kernel
theorem dX12_showsTo_73 : decode cX12_showsTo 73 = .ok (.ldiv, 1) := by decide +kernel
theorem dX12_showsTo_74 : decode cX12_showsTo 74 = .ok (.lload 5, 2) := by decide +kernel
theorem dX12_showsTo_76 : decode cX12_showsTo 76 = .ok (.lload 9, 2) := by decide +kernel
theorem dX12_showsTo_78 : decode cX12_showsTo 78 = .ok (.ladd, 1) := by decide +kernel
theorem dX12_showsTo_79 : decode cX12_showsTo 79 = .ok (.ldc2_w 108, 3) := by decide +kernel
theorem dX12_showsTo_82 : decode cX12_showsTo 82 = .ok (.ldiv, 1) := by decide +kernel
theorem dX12_showsTo_83 : decode cX12_showsTo 83 = .ok (.invokevirtual 174, 3) := by decide +kernel
theorem dX12_showsTo_86 : decode cX12_showsTo 86 = .ok (.ifCond .eq 7, 3) := by decide +kernel
theorem dX12_showsTo_89 : decode cX12_showsTo 89 = .ok (.iconst 1, 1) := by decide +kernel
theorem dX12_showsTo_90 : decode cX12_showsTo 90 = .ok (.goto 4, 3) := by decide +kernel
theorem dX12_showsTo_93 : decode cX12_showsTo 93 = .ok (.iconst 0, 1) := by decide +kernel
theorem dX12_showsTo_94 : decode cX12_showsTo 94 = .ok (.ireturn, 1) := by decide +kernel
theorem dX12_shows_0 : decode cX12_shows 0 = .ok (.aload_n 0, 1) := by decide +kernel
theorem dX12_shows_1 : decode cX12_shows 1 = .ok (.iload_n 1, 1) := by decide +kernel
theorem dX12_shows_2 : decode cX12_shows 2 = .ok (.invokevirtual 97, 3) := by decide +kernel
theorem dX12_shows_5 : decode cX12_shows 5 = .ok (.ifCond .eq 11, 3) := by decide +kernel
theorem dX12_shows_8 : decode cX12_shows 8 = .ok (.aload_n 0, 1) := by decide +kernel
theorem dX12_shows_9 : decode cX12_shows 9 = .ok (.iload_n 2, 1) := by decide +kernel
theorem dX12_shows_10 : decode cX12_shows 10 = .ok (.invokevirtual 93, 3) := by decide +kernel
theorem dX12_shows_13 : decode cX12_shows 13 = .ok (.ifCond .ne 5, 3) := by decide +kernel
theorem dX12_shows_16 : decode cX12_shows 16 = .ok (.iconst (-1), 1) := by decide +kernel
theorem dX12_shows_17 : decode cX12_shows 17 = .ok (.ireturn, 1) := by decide +kernel
theorem dX12_shows_18 : decode cX12_shows 18 = .ok (.aload_n 0, 1) := by decide +kernel
theorem dX12_shows_19 : decode cX12_shows 19 = .ok (.iload_n 1, 1) := by decide +kernel
theorem dX12_shows_20 : decode cX12_shows 20 = .ok (.iload_n 2, 1) := by decide +kernel
theorem dX12_shows_21 : decode cX12_shows 21 = .ok (.invokevirtual 183, 3) := by decide +kernel
theorem dX12_shows_24 : decode cX12_shows 24 = .ok (.ifCond .eq 7, 3) := by decide +kernel
theorem dX12_shows_27 : decode cX12_shows 27 = .ok (.iconst 1, 1) := by decide +kernel
theorem dX12_shows_28 : decode cX12_shows 28 = .ok (.goto 4, 3) := by decide +kernel
theorem dX12_shows_31 : decode cX12_shows 31 = .ok (.iconst 0, 1) := by decide +kernel
theorem dX12_shows_32 : decode cX12_shows 32 = .ok (.ireturn, 1) := by decide +kernel
theorem dX12_black_0 : decode cX12_black 0 = .ok (.iconst 0, 1) := by decide +kernel
theorem dX12_black_1 : decode cX12_black 1 = .ok (.istore_n 1, 1) := by decide +kernel
theorem dX12_black_2 : decode cX12_black 2 = .ok (.iconst 0, 1) := by decide +kernel
theorem dX12_black_3 : decode cX12_black 3 = .ok (.istore_n 2, 1) := by decide +kernel
theorem dX12_black_4 : decode cX12_black 4 = .ok (.iload_n 2, 1) := by decide +kernel
theorem dX12_black_5 : decode cX12_black 5 = .ok (.bipush 12, 2) := by decide +kernel
theorem dX12_black_7 : decode cX12_black 7 = .ok (.if_icmp .ge 56, 3) := by decide +kernel
theorem dX12_black_10 : decode cX12_black 10 = .ok (.iconst 0, 1) := by decide +kernel
theorem dX12_black_11 : decode cX12_black 11 = .ok (.istore_n 3, 1) := by decide +kernel
theorem dX12_black_12 : decode cX12_black 12 = .ok (.iload_n 3, 1) := by decide +kernel
theorem dX12_black_13 : decode cX12_black 13 = .ok (.bipush 8, 2) := by decide +kernel
theorem dX12_black_15 : decode cX12_black 15 = .ok (.if_icmp .ge 42, 3) := by decide +kernel
theorem dX12_black_18 : decode cX12_black 18 = .ok (.aload_n 0, 1) := by decide +kernel
theorem dX12_black_19 : decode cX12_black 19 = .ok (.getfield 60, 3) := by decide +kernel
theorem dX12_black_22 : decode cX12_black 22 = .ok (.iload_n 2, 1) := by decide +kernel
theorem dX12_black_23 : decode cX12_black 23 = .ok (.baload, 1) := by decide +kernel
theorem dX12_black_24 : decode cX12_black 24 = .ok (.ifCond .eq 27, 3) := by decide +kernel
theorem dX12_black_27 : decode cX12_black 27 = .ok (.aload_n 0, 1) := by decide +kernel
theorem dX12_black_28 : decode cX12_black 28 = .ok (.getfield 49, 3) := by decide +kernel
theorem dX12_black_31 : decode cX12_black 31 = .ok (.iload_n 3, 1) := by decide +kernel
theorem dX12_black_32 : decode cX12_black 32 = .ok (.baload, 1) := by decide +kernel
theorem dX12_black_33 : decode cX12_black 33 = .ok (.ifCond .eq 18, 3) := by decide +kernel
theorem dX12_black_36 : decode cX12_black 36 = .ok (.aload_n 0, 1) := by decide +kernel
theorem dX12_black_37 : decode cX12_black 37 = .ok (.iload_n 2, 1) := by decide +kernel
theorem dX12_black_38 : decode cX12_black 38 = .ok (.iload_n 3, 1) := by decide +kernel
theorem dX12_black_39 : decode cX12_black 39 = .ok (.invokevirtual 183, 3) := by decide +kernel
theorem dX12_black_42 : decode cX12_black 42 = .ok (.ifCond .eq 9, 3) := by decide +kernel
theorem dX12_black_45 : decode cX12_black 45 = .ok (.iload_n 1, 1) := by decide +kernel
theorem dX12_black_46 : decode cX12_black 46 = .ok (.iconst 1, 1) := by decide +kernel
theorem dX12_black_47 : decode cX12_black 47 = .ok (.iload_n 2, 1) := by decide +kernel
theorem dX12_black_48 : decode cX12_black 48 = .ok (.ishl, 1) := by decide +kernel
theorem dX12_black_49 : decode cX12_black 49 = .ok (.ior, 1) := by decide +kernel
theorem dX12_black_50 : decode cX12_black 50 = .ok (.istore_n 1, 1) := by decide +kernel
theorem dX12_black_51 : decode cX12_black 51 = .ok (.iinc 3 1, 3) := by decide +kernel
theorem dX12_black_54 : decode cX12_black 54 = .ok (.goto (-42), 3) := by decide +kernel
theorem dX12_black_57 : decode cX12_black 57 = .ok (.iinc 2 1, 3) := by decide +kernel
theorem dX12_black_60 : decode cX12_black 60 = .ok (.goto (-56), 3) := by decide +kernel
theorem dX12_black_63 : decode cX12_black 63 = .ok (.iload_n 1, 1) := by decide +kernel
theorem dX12_black_64 : decode cX12_black 64 = .ok (.ireturn, 1) := by decide +kernel
