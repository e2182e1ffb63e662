theorem dX12_isWide_20 : decode cX12_isWide 20 = .ok (.invokestatic 3, 3) := by decide +kernel
theorem dX12_isWide_23 : decode cX12_isWide 23 = .ok (.ifCond .eq 7, 3) := by decide +kernel
theorem dX12_isWide_26 : decode cX12_isWide 26 = .ok (.iconst 1, 1) := by decide +kernel
theorem dX12_isWide_27 : decode cX12_isWide 27 = .ok (.goto 4, 3) := by decide +kernel
theorem dX12_isWide_30 : decode cX12_isWide 30 = .ok (.iconst 0, 1) := by decide +kernel
theorem dX12_isWide_31 : decode cX12_isWide 31 = .ok (.ireturn, 1) := by decide +kernel
theorem dX12_mirroredX_0 : decode cX12_mirroredX 0 = .ok (.lload_n 1, 1) := by decide +kernel
theorem dX12_mirroredX_1 : decode cX12_mirroredX 1 = .ok (.aload_n 0, 1) := by decide +kernel
theorem dX12_mirroredX_2 : decode cX12_mirroredX 2 = .ok (.invokevirtual 104, 3) := by decide +kernel
theorem dX12_mirroredX_5 : decode cX12_mirroredX 5 = .ok (.lmul, 1) := by decide +kernel
theorem dX12_mirroredX_6 : decode cX12_mirroredX 6 = .ok (.ldc2_w 108, 3) := by decide +kernel
theorem dX12_mirroredX_9 : decode cX12_mirroredX 9 = .ok (.aload_n 0, 1) := by decide +kernel
theorem dX12_mirroredX_10 : decode cX12_mirroredX 10 = .ok (.lload_n 1, 1) := by decide +kernel
theorem dX12_mirroredX_11 : decode cX12_mirroredX 11 = .ok (.lload_n 3, 1) := by decide +kernel
theorem dX12_mirroredX_12 : decode cX12_mirroredX 12 = .ok (.invokevirtual 110, 3) := by decide +kernel
theorem dX12_mirroredX_15 : decode cX12_mirroredX 15 = .ok (.lmul, 1) := by decide +kernel
theorem dX12_mirroredX_16 : decode cX12_mirroredX 16 = .ok (.aload_n 0, 1) := by decide +kernel
theorem dX12_mirroredX_17 : decode cX12_mirroredX 17 = .ok (.getfield 25, 3) := by decide +kernel
theorem dX12_mirroredX_20 : decode cX12_mirroredX 20 = .ok (.aload_n 0, 1) := by decide +kernel
theorem dX12_mirroredX_21 : decode cX12_mirroredX 21 = .ok (.getfield 19, 3) := by decide +kernel
theorem dX12_mirroredX_24 : decode cX12_mirroredX 24 = .ok (.isub, 1) := by decide +kernel
theorem dX12_mirroredX_25 : decode cX12_mirroredX 25 = .ok (.i2l, 1) := by decide +kernel
theorem dX12_mirroredX_26 : decode cX12_mirroredX 26 = .ok (.lmul, 1) := by decide +kernel
theorem dX12_mirroredX_27 : decode cX12_mirroredX 27 = .ok (.ladd, 1) := by decide +kernel
theorem dX12_mirroredX_28 : decode cX12_mirroredX 28 = .ok (.lreturn, 1) := by decide +kernel
theorem dX12_mirroredY_0 : decode cX12_mirroredY 0 = .ok (.lload_n 3, 1) := by decide +kernel
theorem dX12_mirroredY_1 : decode cX12_mirroredY 1 = .ok (.aload_n 0, 1) := by decide +kernel
theorem dX12_mirroredY_2 : decode cX12_mirroredY 2 = .ok (.invokevirtual 104, 3) := by decide +kernel
theorem dX12_mirroredY_5 : decode cX12_mirroredY 5 = .ok (.lmul, 1) := by decide +kernel
theorem dX12_mirroredY_6 : decode cX12_mirroredY 6 = .ok (.ldc2_w 108, 3) := by decide +kernel
theorem dX12_mirroredY_9 : decode cX12_mirroredY 9 = .ok (.aload_n 0, 1) := by decide +kernel
theorem dX12_mirroredY_10 : decode cX12_mirroredY 10 = .ok (.lload_n 1, 1) := by decide +kernel
theorem dX12_mirroredY_11 : decode cX12_mirroredY 11 = .ok (.lload_n 3, 1) := by decide +kernel
theorem dX12_mirroredY_12 : decode cX12_mirroredY 12 = .ok (.invokevirtual 110, 3) := by decide +kernel
theorem dX12_mirroredY_15 : decode cX12_mirroredY 15 = .ok (.lmul, 1) := by decide +kernel
theorem dX12_mirroredY_16 : decode cX12_mirroredY 16 = .ok (.aload_n 0, 1) := by decide +kernel
theorem dX12_mirroredY_17 : decode cX12_mirroredY 17 = .ok (.getfield 22, 3) := by decide +kernel
theorem dX12_mirroredY_20 : decode cX12_mirroredY 20 = .ok (.aload_n 0, 1) := by decide +kernel
theorem dX12_mirroredY_21 : decode cX12_mirroredY 21 = .ok (.getfield 15, 3) := by decide +kernel
theorem dX12_mirroredY_24 : decode cX12_mirroredY 24 = .ok (.isub, 1) := by decide +kernel
theorem dX12_mirroredY_25 : decode cX12_mirroredY 25 = .ok (.i2l, 1) := by decide +kernel
theorem dX12_mirroredY_26 : decode cX12_mirroredY 26 = .ok (.lmul, 1) := by decide +kernel
theorem dX12_mirroredY_27 : decode cX12_mirroredY 27 = .ok (.lsub, 1) := by decide +kernel
theorem dX12_mirroredY_28 : decode cX12_mirroredY 28 = .ok (.lreturn, 1) := by decide +kernel
theorem dX12_of_0 : decode cX12_of 0 = .ok (.iload_n 1, 1) := by decide +kernel
theorem dX12_of_1 : decode cX12_of 1 = .ok (.iload_n 2, 1) := by decide +kernel
theorem dX12_of_2 : decode cX12_of 2 = .ok (.invokestatic 113, 3) := by decide +kernel
theorem dX12_of_5 : decode cX12_of 5 = .ok (.ifCond .ne 7, 3) := by decide +kernel
theorem dX12_of_8 : decode cX12_of 8 = .ok (.ldc2_w 116, 3) := by decide +kernel
theorem dX12_of_11 : decode cX12_of 11 = .ok (.lreturn, 1) := by decide +kernel
theorem dX12_of_12 : decode cX12_of 12 = .ok (.iload_n 3, 1) := by decide +kernel
theorem dX12_of_13 : decode cX12_of 13 = .ok (.tableswitch 76 0 4 #[35, 44, 53, 58, 67], 35) := by decide +kernel
theorem dX12_of_48 : decode cX12_of 48 = .ok (.aload_n 0, 1) := by decide +kernel
theorem dX12_of_49 : decode cX12_of 49 = .ok (.iload_n 1, 1) := by decide +kernel
theorem dX12_of_50 : decode cX12_of 50 = .ok (.i2l, 1) := by decide +kernel
theorem dX12_of_51 : decode cX12_of 51 = .ok (.iload_n 2, 1) := by decide +kernel
theorem dX12_of_52 : decode cX12_of 52 = .ok (.i2l, 1) := by decide +kernel
theorem dX12_of_53 : decode cX12_of 53 = .ok (.invokevirtual 100, 3) := by decide +kernel
theorem dX12_of_56 : decode cX12_of 56 = .ok (.lreturn, 1) := by decide +kernel
theorem dX12_of_57 : decode cX12_of 57 = .ok (.aload_n 0, 1) := by decide +kernel
theorem dX12_of_58 : decode cX12_of 58 = .ok (.iload_n 1, 1) := by decide +kernel
theorem dX12_of_59 : decode cX12_of 59 = .ok (.i2l, 1) := by decide +kernel
theorem dX12_of_60 : decode cX12_of 60 = .ok (.iload_n 2, 1) := by decide +kernel
theorem dX12_of_61 : decode cX12_of 61 = .ok (.i2l, 1) := by decide +kernel
theorem dX12_of_62 : decode cX12_of 62 = .ok (.invokevirtual 110, 3) := by decide +kernel
theorem dX12_of_65 : decode cX12_of 65 = .ok (.lreturn, 1) := by decide +kernel
theorem dX12_of_66 : decode cX12_of 66 = .ok (.aload_n 0, 1) := by decide +kernel
theorem dX12_of_67 : decode cX12_of 67 = .ok (.invokevirtual 104, 3) := by decide +kernel
theorem dX12_of_70 : decode cX12_of 70 = .ok (.lreturn, 1) := by decide +kernel
theorem dX12_of_71 : decode cX12_of 71 = .ok (.aload_n 0, 1) := by decide +kernel
theorem dX12_of_72 : decode cX12_of 72 = .ok (.iload_n 1, 1) := by decide +kernel
theorem dX12_of_73 : decode cX12_of 73 = .ok (.i2l, 1) := by decide +kernel
theorem dX12_of_74 : decode cX12_of 74 = .ok (.iload_n 2, 1) := by decide +kernel
theorem dX12_of_75 : decode cX12_of 75 = .ok (.i2l, 1) := by decide +kernel
theorem dX12_of_76 : decode cX12_of 76 = .ok (.invokevirtual 118, 3) := by decide +kernel
theorem dX12_of_79 : decode cX12_of 79 = .ok (.lreturn, 1) := by decide +kernel
theorem dX12_of_80 : decode cX12_of 80 = .ok (.aload_n 0, 1) := by decide +kernel
theorem dX12_of_81 : decode cX12_of 81 = .ok (.iload_n 1, 1) := by decide +kernel
theorem dX12_of_82 : decode cX12_of 82 = .ok (.i2l, 1) := by decide +kernel
theorem dX12_of_83 : decode cX12_of 83 = .ok (.iload_n 2, 1) := by decide +kernel
theorem dX12_of_84 : decode cX12_of 84 = .ok (.i2l, 1) := by decide +kernel
theorem dX12_of_85 : decode cX12_of 85 = .ok (.invokevirtual 121, 3) := by decide +kernel
theorem dX12_of_88 : decode cX12_of 88 = .ok (.lreturn, 1) := by decide +kernel
theorem dX12_of_89 : decode cX12_of 89 = .ok (.ldc2_w 116, 3) := by decide +kernel
theorem dX12_of_92 : decode cX12_of 92 = .ok (.lreturn, 1) := by decide +kernel
theorem dX12_sees_0 : decode cX12_sees 0 = .ok (.aload_n 0, 1) := by decide +kernel
theorem dX12_sees_1 : decode cX12_sees 1 = .ok (.iload_n 1, 1) := by decide +kernel
theorem dX12_sees_2 : decode cX12_sees 2 = .ok (.invokevirtual 93, 3) := by decide +kernel
theorem dX12_sees_5 : decode cX12_sees 5 = .ok (.ifCond .eq 11, 3) := by decide +kernel
theorem dX12_sees_8 : decode cX12_sees 8 = .ok (.iload_n 2, 1) := by decide +kernel
theorem dX12_sees_9 : decode cX12_sees 9 = .ok (.iload_n 3, 1) := by decide +kernel
theorem dX12_sees_10 : decode cX12_sees 10 = .ok (.invokestatic 113, 3) := by decide +kernel
theorem dX12_sees_13 : decode cX12_sees 13 = .ok (.ifCond .ne 5, 3) := by decide +kernel
theorem dX12_sees_16 : decode cX12_sees 16 = .ok (.iconst (-1), 1) := by decide +kernel
theorem dX12_sees_17 : decode cX12_sees 17 = .ok (.ireturn, 1) := by decide +kernel
theorem dX12_sees_18 : decode cX12_sees 18 = .ok (.aload_n 0, 1) := by decide +kernel
theorem dX12_sees_19 : decode cX12_sees 19 = .ok (.iload_n 1, 1) := by decide +kernel
theorem dX12_sees_20 : decode cX12_sees 20 = .ok (.ldc2_w 108, 3) := by decide +kernel
theorem dX12_sees_23 : decode cX12_sees 23 = .ok (.iload_n 2, 1) := by decide +kernel
theorem dX12_sees_24 : decode cX12_sees 24 = .ok (.i2l, 1) := by decide +kernel
theorem dX12_sees_25 : decode cX12_sees 25 = .ok (.lmul, 1) := by decide +kernel
theorem dX12_sees_26 : decode cX12_sees 26 = .ok (.ldc2_w 108, 3) := by decide +kernel
theorem dX12_sees_29 : decode cX12_sees 29 = .ok (.iload_n 3, 1) := by decide +kernel
theorem dX12_sees_30 : decode cX12_sees 30 = .ok (.i2l, 1) := by decide +kernel
theorem dX12_sees_31 : decode cX12_sees 31 = .ok (.lmul, 1) := by decide +kernel
theorem dX12_sees_32 : decode cX12_sees 32 = .ok (.invokevirtual 174, 3) := by decide +kernel
theorem dX12_sees_35 : decode cX12_sees 35 = .ok (.ifCond .eq 7, 3) := by decide +kernel
theorem dX12_sees_38 : decode cX12_sees 38 = .ok (.iconst 1, 1) := by decide +kernel
theorem dX12_sees_39 : decode cX12_sees 39 = .ok (.goto 4, 3) := by decide +kernel
theorem dX12_sees_42 : decode cX12_sees 42 = .ok (.iconst 0, 1) := by decide +kernel
theorem dX12_sees_43 : decode cX12_sees 43 = .ok (.ireturn, 1) := by decide +kernel
theorem dX12_where_0 : decode cX12_where 0 = .ok (.aload_n 0, 1) := by decide +kernel
theorem dX12_where_1 : decode cX12_where 1 = .ok (.iload_n 1, 1) := by decide +kernel
theorem dX12_where_2 : decode cX12_where 2 = .ok (.invokevirtual 93, 3) := by decide +kernel
theorem dX12_where_5 : decode cX12_where 5 = .ok (.ifCond .eq 38, 3) := by decide +kernel
theorem dX12_where_8 : decode cX12_where 8 = .ok (.iload_n 2, 1) := by decide +kernel
theorem dX12_where_9 : decode cX12_where 9 = .ok (.iload_n 3, 1) := by decide +kernel
theorem dX12_where_10 : decode cX12_where 10 = .ok (.invokestatic 113, 3) := by decide +kernel
theorem dX12_where_13 : decode cX12_where 13 = .ok (.ifCond .eq 30, 3) := by decide +kernel
theorem dX12_where_16 : decode cX12_where 16 = .ok (.aload_n 0, 1) := by decide +kernel
theorem dX12_where_17 : decode cX12_where 17 = .ok (.iload_n 1, 1) := by decide +kernel
theorem dX12_where_18 : decode cX12_where 18 = .ok (.ldc2_w 108, 3) := by decide +kernel
theorem dX12_where_21 : decode cX12_where 21 = .ok (.iload_n 2, 1) := by decide +kernel
theorem dX12_where_22 : decode cX12_where 22 = .ok (.i2l, 1) := by decide +kernel
theorem dX12_where_23 : decode cX12_where 23 = .ok (.lmul, 1) := by decide +kernel
theorem dX12_where_24 : decode cX12_where 24 = .ok (.ldc2_w 108, 3) := by decide +kernel
theorem dX12_where_27 : decode cX12_where 27 = .ok (.iload_n 3, 1) := by decide +kernel
theorem dX12_where_28 : decode cX12_where 28 = .ok (.i2l, 1) := by decide +kernel
theorem dX12_where_29 : decode cX12_where 29 = .ok (.lmul, 1) := by decide +kernel
theorem dX12_where_30 : decode cX12_where 30 = .ok (.invokevirtual 167, 3) := by decide +kernel
theorem dX12_where_33 : decode cX12_where 33 = .ok (.ifCond .eq 10, 3) := by decide +kernel
theorem dX12_where_36 : decode cX12_where 36 = .ok (.aload_n 0, 1) := by decide +kernel
theorem dX12_where_37 : decode cX12_where 37 = .ok (.invokevirtual 179, 3) := by decide +kernel
theorem dX12_where_40 : decode cX12_where 40 = .ok (.goto 4, 3) := by decide +kernel
theorem dX12_where_43 : decode cX12_where 43 = .ok (.iconst (-1), 1) := by decide +kernel
theorem dX12_where_44 : decode cX12_where 44 = .ok (.ireturn, 1) := by decide +kernel
theorem dX12_blocks_0 : decode cX12_blocks 0 = .ok (.aload_n 0, 1) := by decide +kernel
theorem dX12_blocks_1 : decode cX12_blocks 1 = .ok (.iload_n 1, 1) := by decide +kernel
theorem dX12_blocks_2 : decode cX12_blocks 2 = .ok (.invokevirtual 93, 3) := by decide +kernel
theorem dX12_blocks_5 : decode cX12_blocks 5 = .ok (.ifCond .eq 42, 3) := by decide +kernel
theorem dX12_blocks_8 : decode cX12_blocks 8 = .ok (.iload_n 2, 1) := by decide +kernel
theorem dX12_blocks_9 : decode cX12_blocks 9 = .ok (.iload_n 3, 1) := by decide +kernel
theorem dX12_blocks_10 : decode cX12_blocks 10 = .ok (.invokestatic 113, 3) := by decide +kernel
theorem dX12_blocks_13 : decode cX12_blocks 13 = .ok (.ifCond .eq 34, 3) := by decide +kernel
theorem dX12_blocks_16 : decode cX12_blocks 16 = .ok (.iload 4, 2) := by decide +kernel
theorem dX12_blocks_18 : decode cX12_blocks 18 = .ok (.ifCond .eq 9, 3) := by decide +kernel
theorem dX12_blocks_21 : decode cX12_blocks 21 = .ok (.iload 4, 2) := by decide +kernel
theorem dX12_blocks_23 : decode cX12_blocks 23 = .ok (.iconst 1, 1) := by decide +kernel
theorem dX12_blocks_24 : decode cX12_blocks 24 = .ok (.if_icmp .ne 23, 3) := by decide +kernel
theorem dX12_blocks_27 : decode cX12_blocks 27 = .ok (.aload_n 0, 1) := by decide +kernel
theorem dX12_blocks_28 : decode cX12_blocks 28 = .ok (.iload_n 1, 1) := by decide +kernel
theorem dX12_blocks_29 : decode cX12_blocks 29 = .ok (.ldc2_w 108, 3) := by decide +kernel
theorem dX12_blocks_32 : decode cX12_blocks 32 = .ok (.iload_n 2, 1) := by decide +kernel
theorem dX12_blocks_33 : decode cX12_blocks 33 = .ok (.i2l, 1) := by decide +kernel
theorem dX12_blocks_34 : decode cX12_blocks 34 = .ok (.lmul, 1) := by decide +kernel
theorem dX12_blocks_35 : decode cX12_blocks 35 = .ok (.ldc2_w 108, 3) := by decide +kernel
theorem dX12_blocks_38 : decode cX12_blocks 38 = .ok (.iload_n 3, 1) := by decide +kernel
theorem dX12_blocks_39 : decode cX12_blocks 39 = .ok (.i2l, 1) := by decide +kernel
theorem dX12_blocks_40 : decode cX12_blocks 40 = .ok (.lmul, 1) := by decide +kernel
theorem dX12_blocks_41 : decode cX12_blocks 41 = .ok (.invokevirtual 167, 3) := by decide +kernel
theorem dX12_blocks_44 : decode cX12_blocks 44 = .ok (.ifCond .ne 5, 3) := by decide +kernel
theorem dX12_blocks_47 : decode cX12_blocks 47 = .ok (.iconst (-1), 1) := by decide +kernel
theorem dX12_blocks_48 : decode cX12_blocks 48 = .ok (.ireturn, 1) := by decide +kernel
theorem dX12_blocks_49 : decode cX12_blocks 49 = .ok (.iload 4, 2) := by decide +kernel
theorem dX12_blocks_51 : decode cX12_blocks 51 = .ok (.ifCond .ne 18, 3) := by decide +kernel
theorem dX12_blocks_54 : decode cX12_blocks 54 = .ok (.aload_n 0, 1) := by decide +kernel
theorem dX12_blocks_55 : decode cX12_blocks 55 = .ok (.aload_n 0, 1) := by decide +kernel
theorem dX12_blocks_56 : decode cX12_blocks 56 = .ok (.getfield 124, 3) := by decide +kernel
theorem dX12_blocks_59 : decode cX12_blocks 59 = .ok (.aload_n 0, 1) := by decide +kernel
theorem dX12_blocks_60 : decode cX12_blocks 60 = .ok (.getfield 128, 3) := by decide +kernel
theorem dX12_blocks_63 : decode cX12_blocks 63 = .ok (.invokevirtual 170, 3) := by decide +kernel
theorem dX12_blocks_66 : decode cX12_blocks 66 = .ok (.goto 15, 3) := by decide +kernel
theorem dX12_blocks_69 : decode cX12_blocks 69 = .ok (.aload_n 0, 1) := by decide +kernel
theorem dX12_blocks_70 : decode cX12_blocks 70 = .ok (.aload_n 0, 1) := by decide +kernel
theorem dX12_blocks_71 : decode cX12_blocks 71 = .ok (.getfield 131, 3) := by decide +kernel
theorem dX12_blocks_74 : decode cX12_blocks 74 = .ok (.aload_n 0, 1) := by decide +kernel
theorem dX12_blocks_75 : decode cX12_blocks 75 = .ok (.getfield 134, 3) := by decide +kernel
theorem dX12_blocks_78 : decode cX12_blocks 78 = .ok (.invokevirtual 170, 3) := by decide +kernel
theorem dX12_blocks_81 : decode cX12_blocks 81 = .ok (.ireturn, 1) := by decide +kernel
theorem dX12_shows_0 : decode cX12_shows 0 = .ok (.aload_n 0, 1) := by decide +kernel
theorem dX12_shows_1 : decode cX12_shows 1 = .ok (.iload_n 1, 1) := by decide +kernel
theorem dX12_shows_2 : decode cX12_shows 2 = .ok (.invokevirtual 97, 3) := by decide +kernel
theorem dX12_shows_5 : decode cX12_shows 5 = .ok (.ifCond .eq 11, 3) := by decide +kernel
theorem dX12_shows_8 : decode cX12_shows 8 = .ok (.aload_n 0, 1) := by decide +kernel
theorem dX12_shows_9 : decode cX12_shows 9 = .ok (.iload_n 2, 1) := by decide +kernel
theorem dX12_shows_10 : decode cX12_shows 10 = .ok (.invokevirtual 93, 3) := by decide +kernel
theorem dX12_shows_13 : decode cX12_shows 13 = .ok (.ifCond .ne 5, 3) := by decide +kernel
theorem dX12_shows_16 : decode cX12_shows 16 = .ok (.iconst (-1), 1) := by decide +kernel
theorem dX12_shows_17 : decode cX12_shows 17 = .ok (.ireturn, 1) := by decide +kernel
theorem dX12_shows_18 : decode cX12_shows 18 = .ok (.aload_n 0, 1) := by decide +kernel
theorem dX12_shows_19 : decode cX12_shows 19 = .ok (.iload_n 1, 1) := by decide +kernel
theorem dX12_shows_20 : decode cX12_shows 20 = .ok (.iload_n 2, 1) := by decide +kernel
theorem dX12_shows_21 : decode cX12_shows 21 = .ok (.invokevirtual 183, 3) := by decide +kernel
theorem dX12_shows_24 : decode cX12_shows 24 = .ok (.ifCond .eq 7, 3) := by decide +kernel
theorem dX12_shows_27 : decode cX12_shows 27 = .ok (.iconst 1, 1) := by decide +kernel
theorem dX12_shows_28 : decode cX12_shows 28 = .ok (.goto 4, 3) := by decide +kernel
theorem dX12_shows_31 : decode cX12_shows 31 = .ok (.iconst 0, 1) := by decide +kernel
theorem dX12_shows_32 : decode cX12_shows 32 = .ok (.ireturn, 1) := by decide +kernel
theorem dX12_black_0 : decode cX12_black 0 = .ok (.iconst 0, 1) := by decide +kernel
theorem dX12_black_1 : decode cX12_black 1 = .ok (.istore_n 1, 1) := by decide +kernel
theorem dX12_black_2 : decode cX12_black 2 = .ok (.iconst 0, 1) := by decide +kernel
theorem dX12_black_3 : decode cX12_black 3 = .ok (.istore_n 2, 1) := by decide +kernel
theorem dX12_black_4 : decode cX12_black 4 = .ok (.iload_n 2, 1) := by decide +kernel
theorem dX12_black_5 : decode cX12_black 5 = .ok (.bipush 12, 2) := by decide +kernel
theorem dX12_black_7 : decode cX12_black 7 = .ok (.if_icmp .ge 56, 3) := by decide +kernel
theorem dX12_black_10 : decode cX12_black 10 = .ok (.iconst 0, 1) := by decide +kernel
theorem dX12_black_11 : decode cX12_black 11 = .ok (.istore_n 3, 1) := by decide +kernel
theorem dX12_black_12 : decode cX12_black 12 = .ok (.iload_n 3, 1) := by decide +kernel
theorem dX12_black_13 : decode cX12_black 13 = .ok (.bipush 8, 2) := by decide +kernel
theorem dX12_black_15 : decode cX12_black 15 = .ok (.if_icmp .ge 42, 3) := by decide +kernel
theorem dX12_black_18 : decode cX12_black 18 = .ok (.aload_n 0, 1) := by decide +kernel
theorem dX12_black_19 : decode cX12_black 19 = .ok (.getfield 60, 3) := by decide +kernel
theorem dX12_black_22 : decode cX12_black 22 = .ok (.iload_n 2, 1) := by decide +kernel
theorem dX12_black_23 : decode cX12_black 23 = .ok (.baload, 1) := by decide +kernel
theorem dX12_black_24 : decode cX12_black 24 = .ok (.ifCond .eq 27, 3) := by decide +kernel
theorem dX12_black_27 : decode cX12_black 27 = .ok (.aload_n 0, 1) := by decide +kernel
theorem dX12_black_28 : decode cX12_black 28 = .ok (.getfield 49, 3) := by decide +kernel
theorem dX12_black_31 : decode cX12_black 31 = .ok (.iload_n 3, 1) := by decide +kernel
theorem dX12_black_32 : decode cX12_black 32 = .ok (.baload, 1) := by decide +kernel
theorem dX12_black_33 : decode cX12_black 33 = .ok (.ifCond .eq 18, 3) := by decide +kernel
theorem dX12_black_36 : decode cX12_black 36 = .ok (.aload_n 0, 1) := by decide +kernel
theorem dX12_black_37 : decode cX12_black 37 = .ok (.iload_n 2, 1) := by decide +kernel
theorem dX12_black_38 : decode cX12_black 38 = .ok (.iload_n 3, 1) := by decide +kernel
theorem dX12_black_39 : decode cX12_black 39 = .ok (.invokevirtual 183, 3) := by decide +kernel
theorem dX12_black_42 : decode cX12_black 42 = .ok (.ifCond .eq 9, 3) := by decide +kernel
theorem dX12_black_45 : decode cX12_black 45 = .ok (.iload_n 1, 1) := by decide +kernel
theorem dX12_black_46 : decode cX12_black 46 = .ok (.iconst 1, 1) := by decide +kernel
theorem dX12_black_47 : decode cX12_black 47 = .ok (.iload_n 2, 1) := by decide +kernel
theorem dX12_black_48 : decode cX12_black 48 = .ok (.ishl, 1) := by decide +kernel
theorem dX12_black_49 : decode cX12_black 49 = .ok (.ior, 1) := by decide +kernel
theorem dX12_black_50 : decode cX12_black 50 = .ok (.istore_n 1, 1) := by decide +kernel
theorem dX12_black_51 : decode cX12_black 51 = .ok (.iinc 3 1, 3) := by decide +kernel
theorem dX12_black_54 : decode cX12_black 54 = .ok (.goto (-42), 3) := by decide +kernel
theorem dX12_black_57 : decode cX12_black 57 = .ok (.iinc 2 1, 3) := by decide +kernel
theorem dX12_black_60 : decode cX12_black 60 = .ok (.goto (-56), 3) := by decide +kernel
theorem dX12_black_63 : decode cX12_black 63 = .ok (.iload_n 1, 1) := by decide +kernel
theorem dX12_black_64 : decode cX12_black 64 = .ok (.ireturn, 1) := by decide +kernel
theorem dX12_feed_0 : decode cX12_feed 0 = .ok (.aload_n 0, 1) := by decide +kernel
theorem dX12_feed_1 : decode cX12_feed 1 = .ok (.getfield 186, 3) := by decide +kernel
theorem dX12_feed_4 : decode cX12_feed 4 = .ok (.bipush 20, 2) := by decide +kernel
theorem dX12_feed_6 : decode cX12_feed 6 = .ok (.iadd, 1) := by decide +kernel
theorem dX12_feed_7 : decode cX12_feed 7 = .ok (.sipush 600, 3) := by decide +kernel
theorem dX12_feed_10 : decode cX12_feed 10 = .ok (.if_icmp .le 5, 3) := by decide +kernel
theorem dX12_feed_13 : decode cX12_feed 13 = .ok (.iconst (-1), 1) := by decide +kernel
theorem dX12_feed_14 : decode cX12_feed 14 = .ok (.ireturn, 1) := by decide +kernel
theorem dX12_feed_15 : decode cX12_feed 15 = .ok (.iconst 0, 1) := by decide +kernel
theorem dX12_feed_16 : decode cX12_feed 16 = .ok (.istore 6, 2) := by decide +kernel
theorem dX12_feed_18 : decode cX12_feed 18 = .ok (.iload 6, 2) := by decide +kernel
theorem dX12_feed_20 : decode cX12_feed 20 = .ok (.bipush 20, 2) := by decide +kernel
theorem dX12_feed_22 : decode cX12_feed 22 = .ok (.if_icmp .ge 92, 3) := by decide +kernel
theorem dX12_feed_25 : decode cX12_feed 25 = .ok (.iload 6, 2) := by decide +kernel
theorem dX12_feed_27 : decode cX12_feed 27 = .ok (.iconst 4, 1) := by decide +kernel
theorem dX12_feed_28 : decode cX12_feed 28 = .ok (.if_icmp .ge 7, 3) := by decide +kernel
theorem dX12_feed_31 : decode cX12_feed 31 = .ok (.iload_n 1, 1) := by decide +kernel
theorem dX12_feed_32 : decode cX12_feed 32 = .ok (.goto 39, 3) := by decide +kernel
theorem dX12_feed_35 : decode cX12_feed 35 = .ok (.iload 6, 2) := by decide +kernel
theorem dX12_feed_37 : decode cX12_feed 37 = .ok (.bipush 8, 2) := by decide +kernel
theorem dX12_feed_39 : decode cX12_feed 39 = .ok (.if_icmp .ge 7, 3) := by decide +kernel
theorem dX12_feed_42 : decode cX12_feed 42 = .ok (.iload_n 2, 1) := by decide +kernel
theorem dX12_feed_43 : decode cX12_feed 43 = .ok (.goto 28, 3) := by decide +kernel
theorem dX12_feed_46 : decode cX12_feed 46 = .ok (.iload 6, 2) := by decide +kernel
theorem dX12_feed_48 : decode cX12_feed 48 = .ok (.bipush 12, 2) := by decide +kernel
theorem dX12_feed_50 : decode cX12_feed 50 = .ok (.if_icmp .ge 7, 3) := by decide +kernel
theorem dX12_feed_53 : decode cX12_feed 53 = .ok (.iload_n 3, 1) := by decide +kernel
theorem dX12_feed_54 : decode cX12_feed 54 = .ok (.goto 17, 3) := by decide +kernel
theorem dX12_feed_57 : decode cX12_feed 57 = .ok (.iload 6, 2) := by decide +kernel
theorem dX12_feed_59 : decode cX12_feed 59 = .ok (.bipush 16, 2) := by decide +kernel
theorem dX12_feed_61 : decode cX12_feed 61 = .ok (.if_icmp .ge 8, 3) := by decide +kernel
theorem dX12_feed_64 : decode cX12_feed 64 = .ok (.iload 4, 2) := by decide +kernel
theorem dX12_feed_66 : decode cX12_feed 66 = .ok (.goto 5, 3) := by decide +kernel
theorem dX12_feed_69 : decode cX12_feed 69 = .ok (.iload 5, 2) := by decide +kernel
theorem dX12_feed_71 : decode cX12_feed 71 = .ok (.istore 7, 2) := by decide +kernel
theorem dX12_feed_73 : decode cX12_feed 73 = .ok (.aload_n 0, 1) := by decide +kernel
theorem dX12_feed_74 : decode cX12_feed 74 = .ok (.getfield 189, 3) := by decide +kernel
theorem dX12_feed_77 : decode cX12_feed 77 = .ok (.aload_n 0, 1) := by decide +kernel
theorem dX12_feed_78 : decode cX12_feed 78 = .ok (.getfield 186, 3) := by decide +kernel
theorem dX12_feed_81 : decode cX12_feed 81 = .ok (.iload 7, 2) := by decide +kernel
theorem dX12_feed_83 : decode cX12_feed 83 = .ok (.bipush 8, 2) := by decide +kernel
theorem dX12_feed_85 : decode cX12_feed 85 = .ok (.iconst 3, 1) := by decide +kernel
theorem dX12_feed_86 : decode cX12_feed 86 = .ok (.iload 6, 2) := by decide +kernel
theorem dX12_feed_88 : decode cX12_feed 88 = .ok (.iconst 4, 1) := by decide +kernel
theorem dX12_feed_89 : decode cX12_feed 89 = .ok (.irem, 1) := by decide +kernel
theorem dX12_feed_90 : decode cX12_feed 90 = .ok (.isub, 1) := by decide +kernel
theorem dX12_feed_91 : decode cX12_feed 91 = .ok (.imul, 1) := by decide +kernel
theorem dX12_feed_92 : decode cX12_feed 92 = .ok (.ishr, 1) := by decide +kernel
theorem dX12_feed_93 : decode cX12_feed 93 = .ok (.sipush 255, 3) := by decide +kernel
theorem dX12_feed_96 : decode cX12_feed 96 = .ok (.iand, 1) := by decide +kernel
theorem dX12_feed_97 : decode cX12_feed 97 = .ok (.iastore, 1) := by decide +kernel
theorem dX12_feed_98 : decode cX12_feed 98 = .ok (.aload_n 0, 1) := by decide +kernel
theorem dX12_feed_99 : decode cX12_feed 99 = .ok (.dup, 1) := by decide +kernel
theorem dX12_feed_100 : decode cX12_feed 100 = .ok (.getfield 186, 3) := by decide +kernel
theorem dX12_feed_103 : decode cX12_feed 103 = .ok (.iconst 1, 1) := by decide +kernel
theorem dX12_feed_104 : decode cX12_feed 104 = .ok (.iadd, 1) := by decide +kernel
theorem dX12_feed_105 : decode cX12_feed 105 = .ok (.putfield 186, 3) := by decide +kernel
theorem dX12_feed_108 : decode cX12_feed 108 = .ok (.iinc 6 1, 3) := by decide +kernel
theorem dX12_feed_111 : decode cX12_feed 111 = .ok (.goto (-93), 3) := by decide +kernel
theorem dX12_feed_114 : decode cX12_feed 114 = .ok (.aload_n 0, 1) := by decide +kernel
theorem dX12_feed_115 : decode cX12_feed 115 = .ok (.getfield 186, 3) := by decide +kernel
theorem dX12_feed_118 : decode cX12_feed 118 = .ok (.ireturn, 1) := by decide +kernel
theorem dX12_end_0 : decode cX12_end 0 = .ok (.iload_n 1, 1) := by decide +kernel
theorem dX12_end_1 : decode cX12_end 1 = .ok (.ifCond .lt 11, 3) := by decide +kernel
theorem dX12_end_4 : decode cX12_end 4 = .ok (.iload_n 1, 1) := by decide +kernel
theorem dX12_end_5 : decode cX12_end 5 = .ok (.aload_n 0, 1) := by decide +kernel
theorem dX12_end_6 : decode cX12_end 6 = .ok (.getfield 186, 3) := by decide +kernel
theorem dX12_end_9 : decode cX12_end 9 = .ok (.if_icmp .le 5, 3) := by decide +kernel
theorem dX12_end_12 : decode cX12_end 12 = .ok (.iconst 0, 1) := by decide +kernel
theorem dX12_end_13 : decode cX12_end 13 = .ok (.ireturn, 1) := by decide +kernel
theorem dX12_end_14 : decode cX12_end 14 = .ok (.aload_n 0, 1) := by decide +kernel
theorem dX12_end_15 : decode cX12_end 15 = .ok (.iload_n 1, 1) := by decide +kernel
theorem dX12_end_16 : decode cX12_end 16 = .ok (.putfield 186, 3) := by decide +kernel
theorem dX12_end_19 : decode cX12_end 19 = .ok (.iconst 1, 1) := by decide +kernel
theorem dX12_end_20 : decode cX12_end 20 = .ok (.ireturn, 1) := by decide +kernel
theorem dX12_next_0 : decode cX12_next 0 = .ok (.aload_n 0, 1) := by decide +kernel
theorem dX12_next_1 : decode cX12_next 1 = .ok (.getfield 198, 3) := by decide +kernel
theorem dX12_next_4 : decode cX12_next 4 = .ok (.aload_n 0, 1) := by decide +kernel
theorem dX12_next_5 : decode cX12_next 5 = .ok (.getfield 201, 3) := by decide +kernel
theorem dX12_next_8 : decode cX12_next 8 = .ok (.if_icmp .ge 44, 3) := by decide +kernel
theorem dX12_next_11 : decode cX12_next 11 = .ok (.aload_n 0, 1) := by decide +kernel
theorem dX12_next_12 : decode cX12_next 12 = .ok (.getfield 189, 3) := by decide +kernel
theorem dX12_next_15 : decode cX12_next 15 = .ok (.aload_n 0, 1) := by decide +kernel
theorem dX12_next_16 : decode cX12_next 16 = .ok (.getfield 198, 3) := by decide +kernel
theorem dX12_next_19 : decode cX12_next 19 = .ok (.iaload, 1) := by decide +kernel
theorem dX12_next_20 : decode cX12_next 20 = .ok (.bipush 10, 2) := by decide +kernel
theorem dX12_next_22 : decode cX12_next 22 = .ok (.if_icmp .eq 17, 3) := by decide +kernel
theorem dX12_next_25 : decode cX12_next 25 = .ok (.aload_n 0, 1) := by decide +kernel
theorem dX12_next_26 : decode cX12_next 26 = .ok (.getfield 189, 3) := by decide +kernel
theorem dX12_next_29 : decode cX12_next 29 = .ok (.aload_n 0, 1) := by decide +kernel
theorem dX12_next_30 : decode cX12_next 30 = .ok (.getfield 198, 3) := by decide +kernel
theorem dX12_next_33 : decode cX12_next 33 = .ok (.iaload, 1) := by decide +kernel
theorem dX12_next_34 : decode cX12_next 34 = .ok (.bipush 32, 2) := by decide +kernel
theorem dX12_next_36 : decode cX12_next 36 = .ok (.if_icmp .ne 16, 3) := by decide +kernel
theorem dX12_next_39 : decode cX12_next 39 = .ok (.aload_n 0, 1) := by decide +kernel
theorem dX12_next_40 : decode cX12_next 40 = .ok (.dup, 1) := by decide +kernel
theorem dX12_next_41 : decode cX12_next 41 = .ok (.getfield 198, 3) := by decide +kernel
theorem dX12_next_44 : decode cX12_next 44 = .ok (.iconst 1, 1) := by decide +kernel
theorem dX12_next_45 : decode cX12_next 45 = .ok (.iadd, 1) := by decide +kernel
theorem dX12_next_46 : decode cX12_next 46 = .ok (.putfield 198, 3) := by decide +kernel
theorem dX12_next_49 : decode cX12_next 49 = .ok (.goto (-49), 3) := by decide +kernel
theorem dX12_next_52 : decode cX12_next 52 = .ok (.aload_n 0, 1) := by decide +kernel
theorem dX12_next_53 : decode cX12_next 53 = .ok (.getfield 198, 3) := by decide +kernel
theorem dX12_next_56 : decode cX12_next 56 = .ok (.aload_n 0, 1) := by decide +kernel
theorem dX12_next_57 : decode cX12_next 57 = .ok (.getfield 201, 3) := by decide +kernel
theorem dX12_next_60 : decode cX12_next 60 = .ok (.if_icmp .ge 15, 3) := by decide +kernel
theorem dX12_next_63 : decode cX12_next 63 = .ok (.aload_n 0, 1) := by decide +kernel
theorem dX12_next_64 : decode cX12_next 64 = .ok (.getfield 189, 3) := by decide +kernel
theorem dX12_next_67 : decode cX12_next 67 = .ok (.aload_n 0, 1) := by decide +kernel
theorem dX12_next_68 : decode cX12_next 68 = .ok (.getfield 198, 3) := by decide +kernel
theorem dX12_next_71 : decode cX12_next 71 = .ok (.iaload, 1) := by decide +kernel
theorem dX12_next_72 : decode cX12_next 72 = .ok (.goto 4, 3) := by decide +kernel
theorem dX12_next_75 : decode cX12_next 75 = .ok (.iconst (-1), 1) := by decide +kernel
theorem dX12_next_76 : decode cX12_next 76 = .ok (.ireturn, 1) := by decide +kernel
theorem dX12_reads_0 : decode cX12_reads 0 = .ok (.aload_n 0, 1) := by decide +kernel
theorem dX12_reads_1 : decode cX12_reads 1 = .ok (.iconst 0, 1) := by decide +kernel
theorem dX12_reads_2 : decode cX12_reads 2 = .ok (.putfield 234, 3) := by decide +kernel
theorem dX12_reads_5 : decode cX12_reads 5 = .ok (.aload_n 0, 1) := by decide +kernel
theorem dX12_reads_6 : decode cX12_reads 6 = .ok (.iconst 0, 1) := by decide +kernel
theorem dX12_reads_7 : decode cX12_reads 7 = .ok (.putfield 271, 3) := by decide +kernel
theorem dX12_reads_10 : decode cX12_reads 10 = .ok (.aload_n 0, 1) := by decide +kernel
theorem dX12_reads_11 : decode cX12_reads 11 = .ok (.iconst 0, 1) := by decide +kernel
theorem dX12_reads_12 : decode cX12_reads 12 = .ok (.putfield 246, 3) := by decide +kernel
theorem dX12_reads_15 : decode cX12_reads 15 = .ok (.aload_n 0, 1) := by decide +kernel
theorem dX12_reads_16 : decode cX12_reads 16 = .ok (.getfield 243, 3) := by decide +kernel
theorem dX12_reads_19 : decode cX12_reads 19 = .ok (.iconst 0, 1) := by decide +kernel
theorem dX12_reads_20 : decode cX12_reads 20 = .ok (.iconst 0, 1) := by decide +kernel
theorem dX12_reads_21 : decode cX12_reads 21 = .ok (.iastore, 1) := by decide +kernel
theorem dX12_reads_22 : decode cX12_reads 22 = .ok (.aload_n 0, 1) := by decide +kernel
theorem dX12_reads_23 : decode cX12_reads 23 = .ok (.getfield 261, 3) := by decide +kernel
theorem dX12_reads_26 : decode cX12_reads 26 = .ok (.iconst 0, 1) := by decide +kernel
theorem dX12_reads_27 : decode cX12_reads 27 = .ok (.iconst (-1), 1) := by decide +kernel
theorem dX12_reads_28 : decode cX12_reads 28 = .ok (.iastore, 1) := by decide +kernel
theorem dX12_reads_29 : decode cX12_reads 29 = .ok (.aload_n 0, 1) := by decide +kernel
theorem dX12_reads_30 : decode cX12_reads 30 = .ok (.getfield 264, 3) := by decide +kernel
theorem dX12_reads_33 : decode cX12_reads 33 = .ok (.iconst 0, 1) := by decide +kernel
theorem dX12_reads_34 : decode cX12_reads 34 = .ok (.iconst (-1), 1) := by decide +kernel
theorem dX12_reads_35 : decode cX12_reads 35 = .ok (.iastore, 1) := by decide +kernel
theorem dX12_reads_36 : decode cX12_reads 36 = .ok (.iconst 1, 1) := by decide +kernel
theorem dX12_reads_37 : decode cX12_reads 37 = .ok (.istore_n 1, 1) := by decide +kernel
theorem dX12_reads_38 : decode cX12_reads 38 = .ok (.iload_n 1, 1) := by decide +kernel
theorem dX12_reads_39 : decode cX12_reads 39 = .ok (.ifCond .eq 117, 3) := by decide +kernel
theorem dX12_reads_42 : decode cX12_reads 42 = .ok (.aload_n 0, 1) := by decide +kernel
theorem dX12_reads_43 : decode cX12_reads 43 = .ok (.getfield 192, 3) := by decide +kernel
theorem dX12_reads_46 : decode cX12_reads 46 = .ok (.ifCond .ne 110, 3) := by decide +kernel
theorem dX12_reads_49 : decode cX12_reads 49 = .ok (.aload_n 0, 1) := by decide +kernel
theorem dX12_reads_50 : decode cX12_reads 50 = .ok (.invokevirtual 204, 3) := by decide +kernel
theorem dX12_reads_53 : decode cX12_reads 53 = .ok (.istore_n 2, 1) := by decide +kernel
theorem dX12_reads_54 : decode cX12_reads 54 = .ok (.iload_n 2, 1) := by decide +kernel
theorem dX12_reads_55 : decode cX12_reads 55 = .ok (.bipush 93, 2) := by decide +kernel
theorem dX12_reads_57 : decode cX12_reads 57 = .ok (.if_icmp .ne 33, 3) := by decide +kernel
theorem dX12_reads_60 : decode cX12_reads 60 = .ok (.aload_n 0, 1) := by decide +kernel
theorem dX12_reads_61 : decode cX12_reads 61 = .ok (.getfield 246, 3) := by decide +kernel
theorem dX12_reads_64 : decode cX12_reads 64 = .ok (.ifCond .le 26, 3) := by decide +kernel
theorem dX12_reads_67 : decode cX12_reads 67 = .ok (.aload_n 0, 1) := by decide +kernel
theorem dX12_reads_68 : decode cX12_reads 68 = .ok (.dup, 1) := by decide +kernel
theorem dX12_reads_69 : decode cX12_reads 69 = .ok (.getfield 198, 3) := by decide +kernel
theorem dX12_reads_72 : decode cX12_reads 72 = .ok (.iconst 1, 1) := by decide +kernel
theorem dX12_reads_73 : decode cX12_reads 73 = .ok (.iadd, 1) := by decide +kernel
theorem dX12_reads_74 : decode cX12_reads 74 = .ok (.putfield 198, 3) := by decide +kernel
theorem dX12_reads_77 : decode cX12_reads 77 = .ok (.aload_n 0, 1) := by decide +kernel
theorem dX12_reads_78 : decode cX12_reads 78 = .ok (.invokevirtual 366, 3) := by decide +kernel
theorem dX12_reads_81 : decode cX12_reads 81 = .ok (.aload_n 0, 1) := by decide +kernel
theorem dX12_reads_82 : decode cX12_reads 82 = .ok (.bipush 59, 2) := by decide +kernel
theorem dX12_reads_84 : decode cX12_reads 84 = .ok (.invokevirtual 250, 3) := by decide +kernel
theorem dX12_reads_87 : decode cX12_reads 87 = .ok (.goto 66, 3) := by decide +kernel
theorem dX12_reads_90 : decode cX12_reads 90 = .ok (.iload_n 2, 1) := by decide +kernel
theorem dX12_reads_91 : decode cX12_reads 91 = .ok (.iconst (-1), 1) := by decide +kernel
theorem dX12_reads_92 : decode cX12_reads 92 = .ok (.if_icmp .ne 48, 3) := by decide +kernel
theorem dX12_reads_95 : decode cX12_reads 95 = .ok (.iconst 0, 1) := by decide +kernel
theorem dX12_reads_96 : decode cX12_reads 96 = .ok (.istore_n 1, 1) := by decide +kernel
theorem dX12_reads_97 : decode cX12_reads 97 = .ok (.aload_n 0, 1) := by decide +kernel
theorem dX12_reads_98 : decode cX12_reads 98 = .ok (.getfield 246, 3) := by decide +kernel
theorem dX12_reads_101 : decode cX12_reads 101 = .ok (.ifCond .le 15, 3) := by decide +kernel
theorem dX12_reads_104 : decode cX12_reads 104 = .ok (.aload_n 0, 1) := by decide +kernel
theorem dX12_reads_105 : decode cX12_reads 105 = .ok (.iconst 1, 1) := by decide +kernel
theorem dX12_reads_106 : decode cX12_reads 106 = .ok (.aload_n 0, 1) := by decide +kernel
theorem dX12_reads_107 : decode cX12_reads 107 = .ok (.getfield 198, 3) := by decide +kernel
theorem dX12_reads_110 : decode cX12_reads 110 = .ok (.invokevirtual 217, 3) := by decide +kernel
theorem dX12_reads_113 : decode cX12_reads 113 = .ok (.goto 40, 3) := by decide +kernel
theorem dX12_reads_116 : decode cX12_reads 116 = .ok (.aload_n 0, 1) := by decide +kernel
theorem dX12_reads_117 : decode cX12_reads 117 = .ok (.getfield 243, 3) := by decide +kernel
theorem dX12_reads_120 : decode cX12_reads 120 = .ok (.iconst 0, 1) := by decide +kernel
theorem dX12_reads_121 : decode cX12_reads 121 = .ok (.iaload, 1) := by decide +kernel
theorem dX12_reads_122 : decode cX12_reads 122 = .ok (.sipush 240, 3) := by decide +kernel
theorem dX12_reads_125 : decode cX12_reads 125 = .ok (.if_icmp .le 28, 3) := by decide +kernel
theorem dX12_reads_128 : decode cX12_reads 128 = .ok (.aload_n 0, 1) := by decide +kernel
theorem dX12_reads_129 : decode cX12_reads 129 = .ok (.iconst 5, 1) := by decide +kernel
theorem dX12_reads_130 : decode cX12_reads 130 = .ok (.aload_n 0, 1) := by decide +kernel
theorem dX12_reads_131 : decode cX12_reads 131 = .ok (.getfield 198, 3) := by decide +kernel
theorem dX12_reads_134 : decode cX12_reads 134 = .ok (.invokevirtual 217, 3) := by decide +kernel
theorem dX12_reads_137 : decode cX12_reads 137 = .ok (.goto 16, 3) := by decide +kernel
theorem dX12_reads_140 : decode cX12_reads 140 = .ok (.aload_n 0, 1) := by decide +kernel
theorem dX12_reads_141 : decode cX12_reads 141 = .ok (.invokevirtual 369, 3) := by decide +kernel
theorem dX12_reads_144 : decode cX12_reads 144 = .ok (.ifCond .eq 9, 3) := by decide +kernel
theorem dX12_reads_147 : decode cX12_reads 147 = .ok (.aload_n 0, 1) := by decide +kernel
theorem dX12_reads_148 : decode cX12_reads 148 = .ok (.bipush 59, 2) := by decide +kernel
theorem dX12_reads_150 : decode cX12_reads 150 = .ok (.invokevirtual 250, 3) := by decide +kernel
theorem dX12_reads_153 : decode cX12_reads 153 = .ok (.goto (-115), 3) := by decide +kernel
theorem dX12_reads_156 : decode cX12_reads 156 = .ok (.return_, 1) := by decide +kernel
theorem dX12_init_0 : decode cX12_init 0 = .ok (.aload_n 0, 1) := by decide +kernel
theorem dX12_init_1 : decode cX12_init 1 = .ok (.invokespecial 373, 3) := by decide +kernel
theorem dX12_init_4 : decode cX12_init 4 = .ok (.aload_n 0, 1) := by decide +kernel
theorem dX12_init_5 : decode cX12_init 5 = .ok (.bipush (-50), 2) := by decide +kernel
theorem dX12_init_7 : decode cX12_init 7 = .ok (.putfield 15, 3) := by decide +kernel
theorem dX12_init_10 : decode cX12_init 10 = .ok (.aload_n 0, 1) := by decide +kernel
theorem dX12_init_11 : decode cX12_init 11 = .ok (.iconst 0, 1) := by decide +kernel
theorem dX12_init_12 : decode cX12_init 12 = .ok (.putfield 19, 3) := by decide +kernel
theorem dX12_init_15 : decode cX12_init 15 = .ok (.aload_n 0, 1) := by decide +kernel
theorem dX12_init_16 : decode cX12_init 16 = .ok (.bipush 50, 2) := by decide +kernel
theorem dX12_init_18 : decode cX12_init 18 = .ok (.putfield 22, 3) := by decide +kernel
theorem dX12_init_21 : decode cX12_init 21 = .ok (.aload_n 0, 1) := by decide +kernel
theorem dX12_init_22 : decode cX12_init 22 = .ok (.bipush 80, 2) := by decide +kernel
theorem dX12_init_24 : decode cX12_init 24 = .ok (.putfield 25, 3) := by decide +kernel
theorem dX12_init_27 : decode cX12_init 27 = .ok (.aload_n 0, 1) := by decide +kernel
theorem dX12_init_28 : decode cX12_init 28 = .ok (.bipush (-60), 2) := by decide +kernel
theorem dX12_init_30 : decode cX12_init 30 = .ok (.putfield 28, 3) := by decide +kernel
theorem dX12_init_33 : decode cX12_init 33 = .ok (.aload_n 0, 1) := by decide +kernel
theorem dX12_init_34 : decode cX12_init 34 = .ok (.bipush (-40), 2) := by decide +kernel
theorem dX12_init_36 : decode cX12_init 36 = .ok (.putfield 31, 3) := by decide +kernel
theorem dX12_init_39 : decode cX12_init 39 = .ok (.aload_n 0, 1) := by decide +kernel
theorem dX12_init_40 : decode cX12_init 40 = .ok (.bipush 60, 2) := by decide +kernel
theorem dX12_init_42 : decode cX12_init 42 = .ok (.putfield 34, 3) := by decide +kernel
theorem dX12_init_45 : decode cX12_init 45 = .ok (.aload_n 0, 1) := by decide +kernel
theorem dX12_init_46 : decode cX12_init 46 = .ok (.bipush (-40), 2) := by decide +kernel
theorem dX12_init_48 : decode cX12_init 48 = .ok (.putfield 37, 3) := by decide +kernel
theorem dX12_init_51 : decode cX12_init 51 = .ok (.aload_n 0, 1) := by decide +kernel
theorem dX12_init_52 : decode cX12_init 52 = .ok (.iconst 4, 1) := by decide +kernel
theorem dX12_init_53 : decode cX12_init 53 = .ok (.putfield 43, 3) := by decide +kernel
theorem dX12_init_56 : decode cX12_init 56 = .ok (.aload_n 0, 1) := by decide +kernel
theorem dX12_init_57 : decode cX12_init 57 = .ok (.bipush 8, 2) := by decide +kernel
theorem dX12_init_59 : decode cX12_init 59 = .ok (.newarray .boolean, 2) := by decide +kernel
theorem dX12_init_61 : decode cX12_init 61 = .ok (.putfield 49, 3) := by decide +kernel
theorem dX12_init_64 : decode cX12_init 64 = .ok (.aload_n 0, 1) := by decide +kernel
theorem dX12_init_65 : decode cX12_init 65 = .ok (.bipush 8, 2) := by decide +kernel
theorem dX12_init_67 : decode cX12_init 67 = .ok (.newarray .int, 2) := by decide +kernel
theorem dX12_init_69 : decode cX12_init 69 = .ok (.putfield 53, 3) := by decide +kernel
theorem dX12_init_72 : decode cX12_init 72 = .ok (.aload_n 0, 1) := by decide +kernel
theorem dX12_init_73 : decode cX12_init 73 = .ok (.bipush 8, 2) := by decide +kernel
theorem dX12_init_75 : decode cX12_init 75 = .ok (.newarray .int, 2) := by decide +kernel
theorem dX12_init_77 : decode cX12_init 77 = .ok (.putfield 57, 3) := by decide +kernel
theorem dX12_init_80 : decode cX12_init 80 = .ok (.aload_n 0, 1) := by decide +kernel
theorem dX12_init_81 : decode cX12_init 81 = .ok (.bipush 12, 2) := by decide +kernel
theorem dX12_init_83 : decode cX12_init 83 = .ok (.newarray .boolean, 2) := by decide +kernel
theorem dX12_init_85 : decode cX12_init 85 = .ok (.putfield 60, 3) := by decide +kernel
theorem dX12_init_88 : decode cX12_init 88 = .ok (.aload_n 0, 1) := by decide +kernel
theorem dX12_init_89 : decode cX12_init 89 = .ok (.bipush 12, 2) := by decide +kernel
theorem dX12_init_91 : decode cX12_init 91 = .ok (.newarray .int, 2) := by decide +kernel
theorem dX12_init_93 : decode cX12_init 93 = .ok (.putfield 63, 3) := by decide +kernel
theorem dX12_init_96 : decode cX12_init 96 = .ok (.aload_n 0, 1) := by decide +kernel
theorem dX12_init_97 : decode cX12_init 97 = .ok (.bipush 12, 2) := by decide +kernel
theorem dX12_init_99 : decode cX12_init 99 = .ok (.newarray .int, 2) := by decide +kernel
theorem dX12_init_101 : decode cX12_init 101 = .ok (.putfield 66, 3) := by decide +kernel
theorem dX12_init_104 : decode cX12_init 104 = .ok (.aload_n 0, 1) := by decide +kernel
theorem dX12_init_105 : decode cX12_init 105 = .ok (.bipush 12, 2) := by decide +kernel
theorem dX12_init_107 : decode cX12_init 107 = .ok (.newarray .int, 2) := by decide +kernel
theorem dX12_init_109 : decode cX12_init 109 = .ok (.putfield 69, 3) := by decide +kernel
theorem dX12_init_112 : decode cX12_init 112 = .ok (.aload_n 0, 1) := by decide +kernel
theorem dX12_init_113 : decode cX12_init 113 = .ok (.bipush 12, 2) := by decide +kernel
theorem dX12_init_115 : decode cX12_init 115 = .ok (.newarray .int, 2) := by decide +kernel
theorem dX12_init_117 : decode cX12_init 117 = .ok (.putfield 72, 3) := by decide +kernel
theorem dX12_init_120 : decode cX12_init 120 = .ok (.aload_n 0, 1) := by decide +kernel
theorem dX12_init_121 : decode cX12_init 121 = .ok (.bipush 12, 2) := by decide +kernel
theorem dX12_init_123 : decode cX12_init 123 = .ok (.newarray .boolean, 2) := by decide +kernel
theorem dX12_init_125 : decode cX12_init 125 = .ok (.putfield 75, 3) := by decide +kernel
theorem dX12_init_128 : decode cX12_init 128 = .ok (.aload_n 0, 1) := by decide +kernel
theorem dX12_init_129 : decode cX12_init 129 = .ok (.bipush 8, 2) := by decide +kernel
theorem dX12_init_131 : decode cX12_init 131 = .ok (.newarray .boolean, 2) := by decide +kernel
theorem dX12_init_133 : decode cX12_init 133 = .ok (.putfield 78, 3) := by decide +kernel
theorem dX12_init_136 : decode cX12_init 136 = .ok (.aload_n 0, 1) := by decide +kernel
theorem dX12_init_137 : decode cX12_init 137 = .ok (.bipush 8, 2) := by decide +kernel
theorem dX12_init_139 : decode cX12_init 139 = .ok (.newarray .int, 2) := by decide +kernel
theorem dX12_init_141 : decode cX12_init 141 = .ok (.putfield 81, 3) := by decide +kernel
theorem dX12_init_144 : decode cX12_init 144 = .ok (.aload_n 0, 1) := by decide +kernel
theorem dX12_init_145 : decode cX12_init 145 = .ok (.bipush 8, 2) := by decide +kernel
theorem dX12_init_147 : decode cX12_init 147 = .ok (.newarray .int, 2) := by decide +kernel
theorem dX12_init_149 : decode cX12_init 149 = .ok (.putfield 84, 3) := by decide +kernel
theorem dX12_init_152 : decode cX12_init 152 = .ok (.aload_n 0, 1) := by decide +kernel
theorem dX12_init_153 : decode cX12_init 153 = .ok (.bipush 8, 2) := by decide +kernel
theorem dX12_init_155 : decode cX12_init 155 = .ok (.newarray .int, 2) := by decide +kernel
theorem dX12_init_157 : decode cX12_init 157 = .ok (.putfield 87, 3) := by decide +kernel
theorem dX12_init_160 : decode cX12_init 160 = .ok (.aload_n 0, 1) := by decide +kernel
theorem dX12_init_161 : decode cX12_init 161 = .ok (.bipush 8, 2) := by decide +kernel
theorem dX12_init_163 : decode cX12_init 163 = .ok (.newarray .int, 2) := by decide +kernel
theorem dX12_init_165 : decode cX12_init 165 = .ok (.putfield 90, 3) := by decide +kernel
theorem dX12_init_168 : decode cX12_init 168 = .ok (.aload_n 0, 1) := by decide +kernel
theorem dX12_init_169 : decode cX12_init 169 = .ok (.sipush 600, 3) := by decide +kernel
theorem dX12_init_172 : decode cX12_init 172 = .ok (.newarray .int, 2) := by decide +kernel
theorem dX12_init_174 : decode cX12_init 174 = .ok (.putfield 189, 3) := by decide +kernel
theorem dX12_init_177 : decode cX12_init 177 = .ok (.aload_n 0, 1) := by decide +kernel
theorem dX12_init_178 : decode cX12_init 178 = .ok (.iconst (-1), 1) := by decide +kernel
theorem dX12_init_179 : decode cX12_init 179 = .ok (.putfield 378, 3) := by decide +kernel
theorem dX12_init_182 : decode cX12_init 182 = .ok (.aload_n 0, 1) := by decide +kernel
theorem dX12_init_183 : decode cX12_init 183 = .ok (.iconst 2, 1) := by decide +kernel
theorem dX12_init_184 : decode cX12_init 184 = .ok (.newarray .char, 2) := by decide +kernel
theorem dX12_init_186 : decode cX12_init 186 = .ok (.dup, 1) := by decide +kernel
theorem dX12_init_187 : decode cX12_init 187 = .ok (.iconst 0, 1) := by decide +kernel
theorem dX12_init_188 : decode cX12_init 188 = .ok (.bipush 97, 2) := by decide +kernel
theorem dX12_init_190 : decode cX12_init 190 = .ok (.castore, 1) := by decide +kernel
theorem dX12_init_191 : decode cX12_init 191 = .ok (.dup, 1) := by decide +kernel
theorem dX12_init_192 : decode cX12_init 192 = .ok (.iconst 1, 1) := by decide +kernel
theorem dX12_init_193 : decode cX12_init 193 = .ok (.bipush 116, 2) := by decide +kernel
theorem dX12_init_195 : decode cX12_init 195 = .ok (.castore, 1) := by decide +kernel
theorem dX12_init_196 : decode cX12_init 196 = .ok (.putfield 314, 3) := by decide +kernel
theorem dX12_init_199 : decode cX12_init 199 = .ok (.aload_n 0, 1) := by decide +kernel
theorem dX12_init_200 : decode cX12_init 200 = .ok (.iconst 2, 1) := by decide +kernel
theorem dX12_init_201 : decode cX12_init 201 = .ok (.newarray .char, 2) := by decide +kernel
theorem dX12_init_203 : decode cX12_init 203 = .ok (.dup, 1) := by decide +kernel
theorem dX12_init_204 : decode cX12_init 204 = .ok (.iconst 0, 1) := by decide +kernel
theorem dX12_init_205 : decode cX12_init 205 = .ok (.bipush 103, 2) := by decide +kernel
theorem dX12_init_207 : decode cX12_init 207 = .ok (.castore, 1) := by decide +kernel
theorem dX12_init_208 : decode cX12_init 208 = .ok (.dup, 1) := by decide +kernel
theorem dX12_init_209 : decode cX12_init 209 = .ok (.iconst 1, 1) := by decide +kernel
theorem dX12_init_210 : decode cX12_init 210 = .ok (.bipush 111, 2) := by decide +kernel
theorem dX12_init_212 : decode cX12_init 212 = .ok (.castore, 1) := by decide +kernel
theorem dX12_init_213 : decode cX12_init 213 = .ok (.putfield 322, 3) := by decide +kernel
theorem dX12_init_216 : decode cX12_init 216 = .ok (.aload_n 0, 1) := by decide +kernel
theorem dX12_init_217 : decode cX12_init 217 = .ok (.iconst 2, 1) := by decide +kernel
theorem dX12_init_218 : decode cX12_init 218 = .ok (.newarray .char, 2) := by decide +kernel
theorem dX12_init_220 : decode cX12_init 220 = .ok (.dup, 1) := by decide +kernel
theorem dX12_init_221 : decode cX12_init 221 = .ok (.iconst 0, 1) := by decide +kernel
theorem dX12_init_222 : decode cX12_init 222 = .ok (.bipush 116, 2) := by decide +kernel
theorem dX12_init_224 : decode cX12_init 224 = .ok (.castore, 1) := by decide +kernel
theorem dX12_init_225 : decode cX12_init 225 = .ok (.dup, 1) := by decide +kernel
theorem dX12_init_226 : decode cX12_init 226 = .ok (.iconst 1, 1) := by decide +kernel
theorem dX12_init_227 : decode cX12_init 227 = .ok (.bipush 111, 2) := by decide +kernel
theorem dX12_init_229 : decode cX12_init 229 = .ok (.castore, 1) := by decide +kernel
theorem dX12_init_230 : decode cX12_init 230 = .ok (.putfield 325, 3) := by decide +kernel
theorem dX12_init_233 : decode cX12_init 233 = .ok (.aload_n 0, 1) := by decide +kernel
theorem dX12_init_234 : decode cX12_init 234 = .ok (.iconst 2, 1) := by decide +kernel
theorem dX12_init_235 : decode cX12_init 235 = .ok (.newarray .char, 2) := by decide +kernel
theorem dX12_init_237 : decode cX12_init 237 = .ok (.dup, 1) := by decide +kernel
theorem dX12_init_238 : decode cX12_init 238 = .ok (.iconst 0, 1) := by decide +kernel
theorem dX12_init_239 : decode cX12_init 239 = .ok (.bipush 105, 2) := by decide +kernel
theorem dX12_init_241 : decode cX12_init 241 = .ok (.castore, 1) := by decide +kernel
theorem dX12_init_242 : decode cX12_init 242 = .ok (.dup, 1) := by decide +kernel
theorem dX12_init_243 : decode cX12_init 243 = .ok (.iconst 1, 1) := by decide +kernel
theorem dX12_init_244 : decode cX12_init 244 = .ok (.bipush 110, 2) := by decide +kernel
theorem dX12_init_246 : decode cX12_init 246 = .ok (.castore, 1) := by decide +kernel
theorem dX12_init_247 : decode cX12_init 247 = .ok (.putfield 332, 3) := by decide +kernel
theorem dX12_init_250 : decode cX12_init 250 = .ok (.aload_n 0, 1) := by decide +kernel
theorem dX12_init_251 : decode cX12_init 251 = .ok (.iconst 4, 1) := by decide +kernel
theorem dX12_init_252 : decode cX12_init 252 = .ok (.newarray .char, 2) := by decide +kernel
theorem dX12_init_254 : decode cX12_init 254 = .ok (.dup, 1) := by decide +kernel
theorem dX12_init_255 : decode cX12_init 255 = .ok (.iconst 0, 1) := by decide +kernel
theorem dX12_init_256 : decode cX12_init 256 = .ok (.bipush 115, 2) := by decide +kernel
theorem dX12_init_258 : decode cX12_init 258 = .ok (.castore, 1) := by decide +kernel
theorem dX12_init_259 : decode cX12_init 259 = .ok (.dup, 1) := by decide +kernel
theorem dX12_init_260 : decode cX12_init 260 = .ok (.iconst 1, 1) := by decide +kernel
theorem dX12_init_261 : decode cX12_init 261 = .ok (.bipush 116, 2) := by decide +kernel
theorem dX12_init_263 : decode cX12_init 263 = .ok (.castore, 1) := by decide +kernel
theorem dX12_init_264 : decode cX12_init 264 = .ok (.dup, 1) := by decide +kernel
theorem dX12_init_265 : decode cX12_init 265 = .ok (.iconst 2, 1) := by decide +kernel
theorem dX12_init_266 : decode cX12_init 266 = .ok (.bipush 97, 2) := by decide +kernel
theorem dX12_init_268 : decode cX12_init 268 = .ok (.castore, 1) := by decide +kernel
theorem dX12_init_269 : decode cX12_init 269 = .ok (.dup, 1) := by decide +kernel
theorem dX12_init_270 : decode cX12_init 270 = .ok (.iconst 3, 1) := by decide +kernel
theorem dX12_init_271 : decode cX12_init 271 = .ok (.bipush 121, 2) := by decide +kernel
theorem dX12_init_273 : decode cX12_init 273 = .ok (.castore, 1) := by decide +kernel
theorem dX12_init_274 : decode cX12_init 274 = .ok (.putfield 335, 3) := by decide +kernel
theorem dX12_init_277 : decode cX12_init 277 = .ok (.aload_n 0, 1) := by decide +kernel
theorem dX12_init_278 : decode cX12_init 278 = .ok (.iconst 4, 1) := by decide +kernel
theorem dX12_init_279 : decode cX12_init 279 = .ok (.newarray .char, 2) := by decide +kernel
theorem dX12_init_281 : decode cX12_init 281 = .ok (.dup, 1) := by decide +kernel
theorem dX12_init_282 : decode cX12_init 282 = .ok (.iconst 0, 1) := by decide +kernel
theorem dX12_init_283 : decode cX12_init 283 = .ok (.bipush 114, 2) := by decide +kernel
theorem dX12_init_285 : decode cX12_init 285 = .ok (.castore, 1) := by decide +kernel
theorem dX12_init_286 : decode cX12_init 286 = .ok (.dup, 1) := by decide +kernel
theorem dX12_init_287 : decode cX12_init 287 = .ok (.iconst 1, 1) := by decide +kernel
theorem dX12_init_288 : decode cX12_init 288 = .ok (.bipush 105, 2) := by decide +kernel
theorem dX12_init_290 : decode cX12_init 290 = .ok (.castore, 1) := by decide +kernel
theorem dX12_init_291 : decode cX12_init 291 = .ok (.dup, 1) := by decide +kernel
theorem dX12_init_292 : decode cX12_init 292 = .ok (.iconst 2, 1) := by decide +kernel
theorem dX12_init_293 : decode cX12_init 293 = .ok (.bipush 115, 2) := by decide +kernel
theorem dX12_init_295 : decode cX12_init 295 = .ok (.castore, 1) := by decide +kernel
theorem dX12_init_296 : decode cX12_init 296 = .ok (.dup, 1) := by decide +kernel
theorem dX12_init_297 : decode cX12_init 297 = .ok (.iconst 3, 1) := by decide +kernel
theorem dX12_init_298 : decode cX12_init 298 = .ok (.bipush 101, 2) := by decide +kernel
theorem dX12_init_300 : decode cX12_init 300 = .ok (.castore, 1) := by decide +kernel
theorem dX12_init_301 : decode cX12_init 301 = .ok (.putfield 338, 3) := by decide +kernel
theorem dX12_init_304 : decode cX12_init 304 = .ok (.aload_n 0, 1) := by decide +kernel
theorem dX12_init_305 : decode cX12_init 305 = .ok (.iconst 5, 1) := by decide +kernel
theorem dX12_init_306 : decode cX12_init 306 = .ok (.newarray .char, 2) := by decide +kernel
theorem dX12_init_308 : decode cX12_init 308 = .ok (.dup, 1) := by decide +kernel
theorem dX12_init_309 : decode cX12_init 309 = .ok (.iconst 0, 1) := by decide +kernel
theorem dX12_init_310 : decode cX12_init 310 = .ok (.bipush 108, 2) := by decide +kernel
theorem dX12_init_312 : decode cX12_init 312 = .ok (.castore, 1) := by decide +kernel
theorem dX12_init_313 : decode cX12_init 313 = .ok (.dup, 1) := by decide +kernel
theorem dX12_init_314 : decode cX12_init 314 = .ok (.iconst 1, 1) := by decide +kernel
theorem dX12_init_315 : decode cX12_init 315 = .ok (.bipush 105, 2) := by decide +kernel
theorem dX12_init_317 : decode cX12_init 317 = .ok (.castore, 1) := by decide +kernel
theorem dX12_init_318 : decode cX12_init 318 = .ok (.dup, 1) := by decide +kernel
theorem dX12_init_319 : decode cX12_init 319 = .ok (.iconst 2, 1) := by decide +kernel
theorem dX12_init_320 : decode cX12_init 320 = .ok (.bipush 103, 2) := by decide +kernel
theorem dX12_init_322 : decode cX12_init 322 = .ok (.castore, 1) := by decide +kernel
theorem dX12_init_323 : decode cX12_init 323 = .ok (.dup, 1) := by decide +kernel
theorem dX12_init_324 : decode cX12_init 324 = .ok (.iconst 3, 1) := by decide +kernel
theorem dX12_init_325 : decode cX12_init 325 = .ok (.bipush 104, 2) := by decide +kernel
theorem dX12_init_327 : decode cX12_init 327 = .ok (.castore, 1) := by decide +kernel
theorem dX12_init_328 : decode cX12_init 328 = .ok (.dup, 1) := by decide +kernel
theorem dX12_init_329 : decode cX12_init 329 = .ok (.iconst 4, 1) := by decide +kernel
theorem dX12_init_330 : decode cX12_init 330 = .ok (.bipush 116, 2) := by decide +kernel
theorem dX12_init_332 : decode cX12_init 332 = .ok (.castore, 1) := by decide +kernel
theorem dX12_init_333 : decode cX12_init 333 = .ok (.putfield 341, 3) := by decide +kernel
theorem dX12_init_336 : decode cX12_init 336 = .ok (.aload_n 0, 1) := by decide +kernel
theorem dX12_init_337 : decode cX12_init 337 = .ok (.iconst 2, 1) := by decide +kernel
theorem dX12_init_338 : decode cX12_init 338 = .ok (.newarray .char, 2) := by decide +kernel
theorem dX12_init_340 : decode cX12_init 340 = .ok (.dup, 1) := by decide +kernel
theorem dX12_init_341 : decode cX12_init 341 = .ok (.iconst 0, 1) := by decide +kernel
theorem dX12_init_342 : decode cX12_init 342 = .ok (.bipush 111, 2) := by decide +kernel
theorem dX12_init_344 : decode cX12_init 344 = .ok (.castore, 1) := by decide +kernel
theorem dX12_init_345 : decode cX12_init 345 = .ok (.dup, 1) := by decide +kernel
theorem dX12_init_346 : decode cX12_init 346 = .ok (.iconst 1, 1) := by decide +kernel
theorem dX12_init_347 : decode cX12_init 347 = .ok (.bipush 110, 2) := by decide +kernel
theorem dX12_init_349 : decode cX12_init 349 = .ok (.castore, 1) := by decide +kernel
theorem dX12_init_350 : decode cX12_init 350 = .ok (.putfield 344, 3) := by decide +kernel
theorem dX12_init_353 : decode cX12_init 353 = .ok (.aload_n 0, 1) := by decide +kernel
theorem dX12_init_354 : decode cX12_init 354 = .ok (.iconst 3, 1) := by decide +kernel
theorem dX12_init_355 : decode cX12_init 355 = .ok (.newarray .char, 2) := by decide +kernel
theorem dX12_init_357 : decode cX12_init 357 = .ok (.dup, 1) := by decide +kernel
theorem dX12_init_358 : decode cX12_init 358 = .ok (.iconst 0, 1) := by decide +kernel
theorem dX12_init_359 : decode cX12_init 359 = .ok (.bipush 111, 2) := by decide +kernel
theorem dX12_init_361 : decode cX12_init 361 = .ok (.castore, 1) := by decide +kernel
theorem dX12_init_362 : decode cX12_init 362 = .ok (.dup, 1) := by decide +kernel
theorem dX12_init_363 : decode cX12_init 363 = .ok (.iconst 1, 1) := by decide +kernel
theorem dX12_init_364 : decode cX12_init 364 = .ok (.bipush 102, 2) := by decide +kernel
theorem dX12_init_366 : decode cX12_init 366 = .ok (.castore, 1) := by decide +kernel
theorem dX12_init_367 : decode cX12_init 367 = .ok (.dup, 1) := by decide +kernel
theorem dX12_init_368 : decode cX12_init 368 = .ok (.iconst 2, 1) := by decide +kernel
theorem dX12_init_369 : decode cX12_init 369 = .ok (.bipush 102, 2) := by decide +kernel
theorem dX12_init_371 : decode cX12_init 371 = .ok (.castore, 1) := by decide +kernel
theorem dX12_init_372 : decode cX12_init 372 = .ok (.putfield 347, 3) := by decide +kernel
theorem dX12_init_375 : decode cX12_init 375 = .ok (.aload_n 0, 1) := by decide +kernel
theorem dX12_init_376 : decode cX12_init 376 = .ok (.bipush 6, 2) := by decide +kernel
theorem dX12_init_378 : decode cX12_init 378 = .ok (.newarray .char, 2) := by decide +kernel
theorem dX12_init_380 : decode cX12_init 380 = .ok (.dup, 1) := by decide +kernel
theorem dX12_init_381 : decode cX12_init 381 = .ok (.iconst 0, 1) := by decide +kernel
theorem dX12_init_382 : decode cX12_init 382 = .ok (.bipush 114, 2) := by decide +kernel
theorem dX12_init_384 : decode cX12_init 384 = .ok (.castore, 1) := by decide +kernel
theorem dX12_init_385 : decode cX12_init 385 = .ok (.dup, 1) := by decide +kernel
theorem dX12_init_386 : decode cX12_init 386 = .ok (.iconst 1, 1) := by decide +kernel
theorem dX12_init_387 : decode cX12_init 387 = .ok (.bipush 101, 2) := by decide +kernel
theorem dX12_init_389 : decode cX12_init 389 = .ok (.castore, 1) := by decide +kernel
theorem dX12_init_390 : decode cX12_init 390 = .ok (.dup, 1) := by decide +kernel
theorem dX12_init_391 : decode cX12_init 391 = .ok (.iconst 2, 1) := by decide +kernel
theorem dX12_init_392 : decode cX12_init 392 = .ok (.bipush 112, 2) := by decide +kernel
theorem dX12_init_394 : decode cX12_init 394 = .ok (.castore, 1) := by decide +kernel
theorem dX12_init_395 : decode cX12_init 395 = .ok (.dup, 1) := by decide +kernel
theorem dX12_init_396 : decode cX12_init 396 = .ok (.iconst 3, 1) := by decide +kernel
theorem dX12_init_397 : decode cX12_init 397 = .ok (.bipush 101, 2) := by decide +kernel
theorem dX12_init_399 : decode cX12_init 399 = .ok (.castore, 1) := by decide +kernel
theorem dX12_init_400 : decode cX12_init 400 = .ok (.dup, 1) := by decide +kernel
theorem dX12_init_401 : decode cX12_init 401 = .ok (.iconst 4, 1) := by decide +kernel
theorem dX12_init_402 : decode cX12_init 402 = .ok (.bipush 97, 2) := by decide +kernel
theorem dX12_init_404 : decode cX12_init 404 = .ok (.castore, 1) := by decide +kernel
theorem dX12_init_405 : decode cX12_init 405 = .ok (.dup, 1) := by decide +kernel
theorem dX12_init_406 : decode cX12_init 406 = .ok (.iconst 5, 1) := by decide +kernel
theorem dX12_init_407 : decode cX12_init 407 = .ok (.bipush 116, 2) := by decide +kernel
theorem dX12_init_409 : decode cX12_init 409 = .ok (.castore, 1) := by decide +kernel
theorem dX12_init_410 : decode cX12_init 410 = .ok (.putfield 350, 3) := by decide +kernel
theorem dX12_init_413 : decode cX12_init 413 = .ok (.aload_n 0, 1) := by decide +kernel
theorem dX12_init_414 : decode cX12_init 414 = .ok (.bipush 6, 2) := by decide +kernel
theorem dX12_init_416 : decode cX12_init 416 = .ok (.newarray .char, 2) := by decide +kernel
theorem dX12_init_418 : decode cX12_init 418 = .ok (.dup, 1) := by decide +kernel
theorem dX12_init_419 : decode cX12_init 419 = .ok (.iconst 0, 1) := by decide +kernel
theorem dX12_init_420 : decode cX12_init 420 = .ok (.bipush 102, 2) := by decide +kernel
theorem dX12_init_422 : decode cX12_init 422 = .ok (.castore, 1) := by decide +kernel
theorem dX12_init_423 : decode cX12_init 423 = .ok (.dup, 1) := by decide +kernel
theorem dX12_init_424 : decode cX12_init 424 = .ok (.iconst 1, 1) := by decide +kernel
theorem dX12_init_425 : decode cX12_init 425 = .ok (.bipush 105, 2) := by decide +kernel
theorem dX12_init_427 : decode cX12_init 427 = .ok (.castore, 1) := by decide +kernel
theorem dX12_init_428 : decode cX12_init 428 = .ok (.dup, 1) := by decide +kernel
theorem dX12_init_429 : decode cX12_init 429 = .ok (.iconst 2, 1) := by decide +kernel
theorem dX12_init_430 : decode cX12_init 430 = .ok (.bipush 103, 2) := by decide +kernel
theorem dX12_init_432 : decode cX12_init 432 = .ok (.castore, 1) := by decide +kernel
theorem dX12_init_433 : decode cX12_init 433 = .ok (.dup, 1) := by decide +kernel
theorem dX12_init_434 : decode cX12_init 434 = .ok (.iconst 3, 1) := by decide +kernel
theorem dX12_init_435 : decode cX12_init 435 = .ok (.bipush 117, 2) := by decide +kernel
theorem dX12_init_437 : decode cX12_init 437 = .ok (.castore, 1) := by decide +kernel
theorem dX12_init_438 : decode cX12_init 438 = .ok (.dup, 1) := by decide +kernel
theorem dX12_init_439 : decode cX12_init 439 = .ok (.iconst 4, 1) := by decide +kernel
theorem dX12_init_440 : decode cX12_init 440 = .ok (.bipush 114, 2) := by decide +kernel
theorem dX12_init_442 : decode cX12_init 442 = .ok (.castore, 1) := by decide +kernel
theorem dX12_init_443 : decode cX12_init 443 = .ok (.dup, 1) := by decide +kernel
theorem dX12_init_444 : decode cX12_init 444 = .ok (.iconst 5, 1) := by decide +kernel
theorem dX12_init_445 : decode cX12_init 445 = .ok (.bipush 101, 2) := by decide +kernel
theorem dX12_init_447 : decode cX12_init 447 = .ok (.castore, 1) := by decide +kernel
theorem dX12_init_448 : decode cX12_init 448 = .ok (.putfield 353, 3) := by decide +kernel
theorem dX12_init_451 : decode cX12_init 451 = .ok (.aload_n 0, 1) := by decide +kernel
theorem dX12_init_452 : decode cX12_init 452 = .ok (.iconst 2, 1) := by decide +kernel
theorem dX12_init_453 : decode cX12_init 453 = .ok (.newarray .char, 2) := by decide +kernel
theorem dX12_init_455 : decode cX12_init 455 = .ok (.dup, 1) := by decide +kernel
theorem dX12_init_456 : decode cX12_init 456 = .ok (.iconst 0, 1) := by decide +kernel
theorem dX12_init_457 : decode cX12_init 457 = .ok (.bipush 100, 2) := by decide +kernel
theorem dX12_init_459 : decode cX12_init 459 = .ok (.castore, 1) := by decide +kernel
theorem dX12_init_460 : decode cX12_init 460 = .ok (.dup, 1) := by decide +kernel
theorem dX12_init_461 : decode cX12_init 461 = .ok (.iconst 1, 1) := by decide +kernel
theorem dX12_init_462 : decode cX12_init 462 = .ok (.bipush 111, 2) := by decide +kernel
theorem dX12_init_464 : decode cX12_init 464 = .ok (.castore, 1) := by decide +kernel
theorem dX12_init_465 : decode cX12_init 465 = .ok (.putfield 359, 3) := by decide +kernel
theorem dX12_init_468 : decode cX12_init 468 = .ok (.aload_n 0, 1) := by decide +kernel
theorem dX12_init_469 : decode cX12_init 469 = .ok (.sipush 400, 3) := by decide +kernel
theorem dX12_init_472 : decode cX12_init 472 = .ok (.newarray .int, 2) := by decide +kernel
theorem dX12_init_474 : decode cX12_init 474 = .ok (.putfield 231, 3) := by decide +kernel
theorem dX12_init_477 : decode cX12_init 477 = .ok (.aload_n 0, 1) := by decide +kernel
theorem dX12_init_478 : decode cX12_init 478 = .ok (.sipush 400, 3) := by decide +kernel
theorem dX12_init_481 : decode cX12_init 481 = .ok (.newarray .int, 2) := by decide +kernel
theorem dX12_init_483 : decode cX12_init 483 = .ok (.putfield 237, 3) := by decide +kernel
theorem dX12_init_486 : decode cX12_init 486 = .ok (.aload_n 0, 1) := by decide +kernel
theorem dX12_init_487 : decode cX12_init 487 = .ok (.sipush 400, 3) := by decide +kernel
theorem dX12_init_490 : decode cX12_init 490 = .ok (.newarray .int, 2) := by decide +kernel
theorem dX12_init_492 : decode cX12_init 492 = .ok (.putfield 240, 3) := by decide +kernel
theorem dX12_init_495 : decode cX12_init 495 = .ok (.aload_n 0, 1) := by decide +kernel
theorem dX12_init_496 : decode cX12_init 496 = .ok (.sipush 400, 3) := by decide +kernel
theorem dX12_init_499 : decode cX12_init 499 = .ok (.newarray .int, 2) := by decide +kernel
theorem dX12_init_501 : decode cX12_init 501 = .ok (.putfield 277, 3) := by decide +kernel
theorem dX12_init_504 : decode cX12_init 504 = .ok (.aload_n 0, 1) := by decide +kernel
theorem dX12_init_505 : decode cX12_init 505 = .ok (.sipush 400, 3) := by decide +kernel
theorem dX12_init_508 : decode cX12_init 508 = .ok (.newarray .int, 2) := by decide +kernel
theorem dX12_init_510 : decode cX12_init 510 = .ok (.putfield 280, 3) := by decide +kernel
theorem dX12_init_513 : decode cX12_init 513 = .ok (.aload_n 0, 1) := by decide +kernel
theorem dX12_init_514 : decode cX12_init 514 = .ok (.sipush 400, 3) := by decide +kernel
theorem dX12_init_517 : decode cX12_init 517 = .ok (.newarray .int, 2) := by decide +kernel
theorem dX12_init_519 : decode cX12_init 519 = .ok (.putfield 283, 3) := by decide +kernel
theorem dX12_init_522 : decode cX12_init 522 = .ok (.aload_n 0, 1) := by decide +kernel
theorem dX12_init_523 : decode cX12_init 523 = .ok (.sipush 400, 3) := by decide +kernel
theorem dX12_init_526 : decode cX12_init 526 = .ok (.newarray .int, 2) := by decide +kernel
theorem dX12_init_528 : decode cX12_init 528 = .ok (.putfield 286, 3) := by decide +kernel
theorem dX12_init_531 : decode cX12_init 531 = .ok (.aload_n 0, 1) := by decide +kernel
theorem dX12_init_532 : decode cX12_init 532 = .ok (.bipush 12, 2) := by decide +kernel
theorem dX12_init_534 : decode cX12_init 534 = .ok (.newarray .long, 2) := by decide +kernel
theorem dX12_init_536 : decode cX12_init 536 = .ok (.putfield 274, 3) := by decide +kernel
theorem dX12_init_539 : decode cX12_init 539 = .ok (.aload_n 0, 1) := by decide +kernel
theorem dX12_init_540 : decode cX12_init 540 = .ok (.bipush 12, 2) := by decide +kernel
theorem dX12_init_542 : decode cX12_init 542 = .ok (.newarray .int, 2) := by decide +kernel
theorem dX12_init_544 : decode cX12_init 544 = .ok (.putfield 289, 3) := by decide +kernel
theorem dX12_init_547 : decode cX12_init 547 = .ok (.aload_n 0, 1) := by decide +kernel
theorem dX12_init_548 : decode cX12_init 548 = .ok (.bipush 8, 2) := by decide +kernel
theorem dX12_init_550 : decode cX12_init 550 = .ok (.newarray .int, 2) := by decide +kernel
theorem dX12_init_552 : decode cX12_init 552 = .ok (.putfield 258, 3) := by decide +kernel
theorem dX12_init_555 : decode cX12_init 555 = .ok (.aload_n 0, 1) := by decide +kernel
theorem dX12_init_556 : decode cX12_init 556 = .ok (.bipush 8, 2) := by decide +kernel
theorem dX12_init_558 : decode cX12_init 558 = .ok (.newarray .int, 2) := by decide +kernel
theorem dX12_init_560 : decode cX12_init 560 = .ok (.putfield 243, 3) := by decide +kernel
theorem dX12_init_563 : decode cX12_init 563 = .ok (.aload_n 0, 1) := by decide +kernel
theorem dX12_init_564 : decode cX12_init 564 = .ok (.bipush 8, 2) := by decide +kernel
theorem dX12_init_566 : decode cX12_init 566 = .ok (.newarray .int, 2) := by decide +kernel
theorem dX12_init_568 : decode cX12_init 568 = .ok (.putfield 261, 3) := by decide +kernel
theorem dX12_init_571 : decode cX12_init 571 = .ok (.aload_n 0, 1) := by decide +kernel
theorem dX12_init_572 : decode cX12_init 572 = .ok (.bipush 8, 2) := by decide +kernel
theorem dX12_init_574 : decode cX12_init 574 = .ok (.newarray .int, 2) := by decide +kernel
theorem dX12_init_576 : decode cX12_init 576 = .ok (.putfield 264, 3) := by decide +kernel
theorem dX12_init_579 : decode cX12_init 579 = .ok (.aload_n 0, 1) := by decide +kernel
theorem dX12_init_580 : decode cX12_init 580 = .ok (.bipush 8, 2) := by decide +kernel
theorem dX12_init_582 : decode cX12_init 582 = .ok (.newarray .long, 2) := by decide +kernel
theorem dX12_init_584 : decode cX12_init 584 = .ok (.putfield 267, 3) := by decide +kernel
theorem dX12_init_587 : decode cX12_init 587 = .ok (.aload_n 0, 1) := by decide +kernel
theorem dX12_init_588 : decode cX12_init 588 = .ok (.sipush 241, 3) := by decide +kernel
theorem dX12_init_591 : decode cX12_init 591 = .ok (.newarray .int, 2) := by decide +kernel
theorem dX12_init_593 : decode cX12_init 593 = .ok (.putfield 381, 3) := by decide +kernel
theorem dX12_init_596 : decode cX12_init 596 = .ok (.aload_n 0, 1) := by decide +kernel
theorem dX12_init_597 : decode cX12_init 597 = .ok (.sipush 241, 3) := by decide +kernel
theorem dX12_init_600 : decode cX12_init 600 = .ok (.newarray .int, 2) := by decide +kernel
theorem dX12_init_602 : decode cX12_init 602 = .ok (.putfield 384, 3) := by decide +kernel
theorem dX12_init_605 : decode cX12_init 605 = .ok (.aload_n 0, 1) := by decide +kernel
theorem dX12_init_606 : decode cX12_init 606 = .ok (.sipush 241, 3) := by decide +kernel
theorem dX12_init_609 : decode cX12_init 609 = .ok (.newarray .int, 2) := by decide +kernel
theorem dX12_init_611 : decode cX12_init 611 = .ok (.putfield 387, 3) := by decide +kernel
theorem dX12_init_614 : decode cX12_init 614 = .ok (.aload_n 0, 1) := by decide +kernel
theorem dX12_init_615 : decode cX12_init 615 = .ok (.sipush 128, 3) := by decide +kernel
theorem dX12_init_618 : decode cX12_init 618 = .ok (.newarray .int, 2) := by decide +kernel
theorem dX12_init_620 : decode cX12_init 620 = .ok (.putfield 390, 3) := by decide +kernel
theorem dX12_init_623 : decode cX12_init 623 = .ok (.aload_n 0, 1) := by decide +kernel
theorem dX12_init_624 : decode cX12_init 624 = .ok (.sipush 128, 3) := by decide +kernel
theorem dX12_init_627 : decode cX12_init 627 = .ok (.newarray .int, 2) := by decide +kernel
theorem dX12_init_629 : decode cX12_init 629 = .ok (.putfield 393, 3) := by decide +kernel
theorem dX12_init_632 : decode cX12_init 632 = .ok (.aload_n 0, 1) := by decide +kernel
theorem dX12_init_633 : decode cX12_init 633 = .ok (.sipush 128, 3) := by decide +kernel
theorem dX12_init_636 : decode cX12_init 636 = .ok (.newarray .int, 2) := by decide +kernel
theorem dX12_init_638 : decode cX12_init 638 = .ok (.putfield 396, 3) := by decide +kernel
theorem dX12_init_641 : decode cX12_init 641 = .ok (.aload_n 0, 1) := by decide +kernel
theorem dX12_init_642 : decode cX12_init 642 = .ok (.sipush 128, 3) := by decide +kernel
theorem dX12_init_645 : decode cX12_init 645 = .ok (.newarray .int, 2) := by decide +kernel
theorem dX12_init_647 : decode cX12_init 647 = .ok (.putfield 399, 3) := by decide +kernel
theorem dX12_init_650 : decode cX12_init 650 = .ok (.aload_n 0, 1) := by decide +kernel
theorem dX12_init_651 : decode cX12_init 651 = .ok (.sipush 1000, 3) := by decide +kernel
theorem dX12_init_654 : decode cX12_init 654 = .ok (.newarray .int, 2) := by decide +kernel
theorem dX12_init_656 : decode cX12_init 656 = .ok (.putfield 402, 3) := by decide +kernel
theorem dX12_init_659 : decode cX12_init 659 = .ok (.aload_n 0, 1) := by decide +kernel
theorem dX12_init_660 : decode cX12_init 660 = .ok (.sipush 1001, 3) := by decide +kernel
theorem dX12_init_663 : decode cX12_init 663 = .ok (.newarray .boolean, 2) := by decide +kernel
theorem dX12_init_665 : decode cX12_init 665 = .ok (.putfield 405, 3) := by decide +kernel
theorem dX12_init_668 : decode cX12_init 668 = .ok (.aload_n 0, 1) := by decide +kernel
theorem dX12_init_669 : decode cX12_init 669 = .ok (.sipush 1000, 3) := by decide +kernel
theorem dX12_init_672 : decode cX12_init 672 = .ok (.newarray .int, 2) := by decide +kernel
theorem dX12_init_674 : decode cX12_init 674 = .ok (.putfield 408, 3) := by decide +kernel
theorem dX12_init_677 : decode cX12_init 677 = .ok (.aload_n 0, 1) := by decide +kernel
theorem dX12_init_678 : decode cX12_init 678 = .ok (.bipush 101, 2) := by decide +kernel
theorem dX12_init_680 : decode cX12_init 680 = .ok (.newarray .int, 2) := by decide +kernel
theorem dX12_init_682 : decode cX12_init 682 = .ok (.putfield 411, 3) := by decide +kernel
theorem dX12_init_685 : decode cX12_init 685 = .ok (.aload_n 0, 1) := by decide +kernel
theorem dX12_init_686 : decode cX12_init 686 = .ok (.bipush 101, 2) := by decide +kernel
theorem dX12_init_688 : decode cX12_init 688 = .ok (.newarray .int, 2) := by decide +kernel
theorem dX12_init_690 : decode cX12_init 690 = .ok (.putfield 414, 3) := by decide +kernel
theorem dX12_init_693 : decode cX12_init 693 = .ok (.aload_n 0, 1) := by decide +kernel
theorem dX12_init_694 : decode cX12_init 694 = .ok (.bipush 101, 2) := by decide +kernel
theorem dX12_init_696 : decode cX12_init 696 = .ok (.newarray .int, 2) := by decide +kernel
theorem dX12_init_698 : decode cX12_init 698 = .ok (.putfield 417, 3) := by decide +kernel
theorem dX12_init_701 : decode cX12_init 701 = .ok (.aload_n 0, 1) := by decide +kernel
theorem dX12_init_702 : decode cX12_init 702 = .ok (.bipush 101, 2) := by decide +kernel
theorem dX12_init_704 : decode cX12_init 704 = .ok (.newarray .int, 2) := by decide +kernel
theorem dX12_init_706 : decode cX12_init 706 = .ok (.putfield 420, 3) := by decide +kernel
theorem dX12_init_709 : decode cX12_init 709 = .ok (.aload_n 0, 1) := by decide +kernel
theorem dX12_init_710 : decode cX12_init 710 = .ok (.bipush 101, 2) := by decide +kernel
theorem dX12_init_712 : decode cX12_init 712 = .ok (.newarray .int, 2) := by decide +kernel
theorem dX12_init_714 : decode cX12_init 714 = .ok (.putfield 423, 3) := by decide +kernel
theorem dX12_init_717 : decode cX12_init 717 = .ok (.aload_n 0, 1) := by decide +kernel
theorem dX12_init_718 : decode cX12_init 718 = .ok (.bipush 101, 2) := by decide +kernel
theorem dX12_init_720 : decode cX12_init 720 = .ok (.newarray .int, 2) := by decide +kernel
theorem dX12_init_722 : decode cX12_init 722 = .ok (.putfield 426, 3) := by decide +kernel
theorem dX12_init_725 : decode cX12_init 725 = .ok (.aload_n 0, 1) := by decide +kernel
theorem dX12_init_726 : decode cX12_init 726 = .ok (.bipush 101, 2) := by decide +kernel
theorem dX12_init_728 : decode cX12_init 728 = .ok (.newarray .int, 2) := by decide +kernel
theorem dX12_init_730 : decode cX12_init 730 = .ok (.putfield 429, 3) := by decide +kernel
theorem dX12_init_733 : decode cX12_init 733 = .ok (.aload_n 0, 1) := by decide +kernel
theorem dX12_init_734 : decode cX12_init 734 = .ok (.getfield 387, 3) := by decide +kernel
theorem dX12_init_737 : decode cX12_init 737 = .ok (.iconst 0, 1) := by decide +kernel
theorem dX12_init_738 : decode cX12_init 738 = .ok (.iconst 1, 1) := by decide +kernel
theorem dX12_init_739 : decode cX12_init 739 = .ok (.iastore, 1) := by decide +kernel
theorem dX12_init_740 : decode cX12_init 740 = .ok (.return_, 1) := by decide +kernel
theorem dX12_floorOf_0 : decode cX12_floorOf 0 = .ok (.iload_n 0, 1) := by decide +kernel
theorem dX12_floorOf_1 : decode cX12_floorOf 1 = .ok (.ifCond .lt 9, 3) := by decide +kernel
theorem dX12_floorOf_4 : decode cX12_floorOf 4 = .ok (.iload_n 0, 1) := by decide +kernel
theorem dX12_floorOf_5 : decode cX12_floorOf 5 = .ok (.iload_n 1, 1) := by decide +kernel
theorem dX12_floorOf_6 : decode cX12_floorOf 6 = .ok (.idiv, 1) := by decide +kernel
theorem dX12_floorOf_7 : decode cX12_floorOf 7 = .ok (.goto 11, 3) := by decide +kernel
theorem dX12_floorOf_10 : decode cX12_floorOf 10 = .ok (.iload_n 1, 1) := by decide +kernel
theorem dX12_floorOf_11 : decode cX12_floorOf 11 = .ok (.iconst 1, 1) := by decide +kernel
theorem dX12_floorOf_12 : decode cX12_floorOf 12 = .ok (.isub, 1) := by decide +kernel
theorem dX12_floorOf_13 : decode cX12_floorOf 13 = .ok (.iload_n 0, 1) := by decide +kernel
theorem dX12_floorOf_14 : decode cX12_floorOf 14 = .ok (.isub, 1) := by decide +kernel
theorem dX12_floorOf_15 : decode cX12_floorOf 15 = .ok (.iload_n 1, 1) := by decide +kernel
theorem dX12_floorOf_16 : decode cX12_floorOf 16 = .ok (.idiv, 1) := by decide +kernel
theorem dX12_floorOf_17 : decode cX12_floorOf 17 = .ok (.ineg, 1) := by decide +kernel
theorem dX12_floorOf_18 : decode cX12_floorOf 18 = .ok (.ireturn, 1) := by decide +kernel
theorem dX12_walks_0 : decode cX12_walks 0 = .ok (.aload_n 0, 1) := by decide +kernel
theorem dX12_walks_1 : decode cX12_walks 1 = .ok (.iconst 0, 1) := by decide +kernel
theorem dX12_walks_2 : decode cX12_walks 2 = .ok (.putfield 432, 3) := by decide +kernel
theorem dX12_walks_5 : decode cX12_walks 5 = .ok (.aload_n 0, 1) := by decide +kernel
theorem dX12_walks_6 : decode cX12_walks 6 = .ok (.getfield 381, 3) := by decide +kernel
theorem dX12_walks_9 : decode cX12_walks 9 = .ok (.iconst 0, 1) := by decide +kernel
theorem dX12_walks_10 : decode cX12_walks 10 = .ok (.iconst 0, 1) := by decide +kernel
theorem dX12_walks_11 : decode cX12_walks 11 = .ok (.iastore, 1) := by decide +kernel
theorem dX12_walks_12 : decode cX12_walks 12 = .ok (.aload_n 0, 1) := by decide +kernel
theorem dX12_walks_13 : decode cX12_walks 13 = .ok (.getfield 384, 3) := by decide +kernel
theorem dX12_walks_16 : decode cX12_walks 16 = .ok (.iconst 0, 1) := by decide +kernel
theorem dX12_walks_17 : decode cX12_walks 17 = .ok (.iconst 0, 1) := by decide +kernel
theorem dX12_walks_18 : decode cX12_walks 18 = .ok (.iastore, 1) := by decide +kernel
theorem dX12_walks_19 : decode cX12_walks 19 = .ok (.aload_n 0, 1) := by decide +kernel
theorem dX12_walks_20 : decode cX12_walks 20 = .ok (.getfield 387, 3) := by decide +kernel
theorem dX12_walks_23 : decode cX12_walks 23 = .ok (.iconst 0, 1) := by decide +kernel
theorem dX12_walks_24 : decode cX12_walks 24 = .ok (.iconst 1, 1) := by decide +kernel
theorem dX12_walks_25 : decode cX12_walks 25 = .ok (.iastore, 1) := by decide +kernel
theorem dX12_walks_26 : decode cX12_walks 26 = .ok (.aload_n 0, 1) := by decide +kernel
theorem dX12_walks_27 : decode cX12_walks 27 = .ok (.iconst 0, 1) := by decide +kernel
theorem dX12_walks_28 : decode cX12_walks 28 = .ok (.putfield 447, 3) := by decide +kernel
theorem dX12_walks_31 : decode cX12_walks 31 = .ok (.iconst 0, 1) := by decide +kernel
theorem dX12_walks_32 : decode cX12_walks 32 = .ok (.istore_n 1, 1) := by decide +kernel
theorem dX12_walks_33 : decode cX12_walks 33 = .ok (.iload_n 1, 1) := by decide +kernel
theorem dX12_walks_34 : decode cX12_walks 34 = .ok (.aload_n 0, 1) := by decide +kernel
theorem dX12_walks_35 : decode cX12_walks 35 = .ok (.getfield 234, 3) := by decide +kernel
theorem dX12_walks_38 : decode cX12_walks 38 = .ok (.if_icmp .lt 10, 3) := by decide +kernel
theorem dX12_walks_41 : decode cX12_walks 41 = .ok (.aload_n 0, 1) := by decide +kernel
theorem dX12_walks_42 : decode cX12_walks 42 = .ok (.getfield 447, 3) := by decide +kernel
theorem dX12_walks_45 : decode cX12_walks 45 = .ok (.ifCond .le 101, 3) := by decide +kernel
theorem dX12_walks_48 : decode cX12_walks 48 = .ok (.aload_n 0, 1) := by decide +kernel
theorem dX12_walks_49 : decode cX12_walks 49 = .ok (.getfield 447, 3) := by decide +kernel
theorem dX12_walks_52 : decode cX12_walks 52 = .ok (.ifCond .le 85, 3) := by decide +kernel
theorem dX12_walks_55 : decode cX12_walks 55 = .ok (.iload_n 1, 1) := by decide +kernel
theorem dX12_walks_56 : decode cX12_walks 56 = .ok (.aload_n 0, 1) := by decide +kernel
theorem dX12_walks_57 : decode cX12_walks 57 = .ok (.getfield 393, 3) := by decide +kernel
theorem dX12_walks_60 : decode cX12_walks 60 = .ok (.aload_n 0, 1) := by decide +kernel
theorem dX12_walks_61 : decode cX12_walks 61 = .ok (.getfield 447, 3) := by decide +kernel
theorem dX12_walks_64 : decode cX12_walks 64 = .ok (.iconst 1, 1) := by decide +kernel
theorem dX12_walks_65 : decode cX12_walks 65 = .ok (.isub, 1) := by decide +kernel
theorem dX12_walks_66 : decode cX12_walks 66 = .ok (.iaload, 1) := by decide +kernel
theorem dX12_walks_67 : decode cX12_walks 67 = .ok (.if_icmp .ne 70, 3) := by decide +kernel
theorem dX12_walks_70 : decode cX12_walks 70 = .ok (.aload_n 0, 1) := by decide +kernel
theorem dX12_walks_71 : decode cX12_walks 71 = .ok (.getfield 396, 3) := by decide +kernel
theorem dX12_walks_74 : decode cX12_walks 74 = .ok (.aload_n 0, 1) := by decide +kernel
theorem dX12_walks_75 : decode cX12_walks 75 = .ok (.getfield 447, 3) := by decide +kernel
theorem dX12_walks_78 : decode cX12_walks 78 = .ok (.iconst 1, 1) := by decide +kernel
theorem dX12_walks_79 : decode cX12_walks 79 = .ok (.isub, 1) := by decide +kernel
theorem dX12_walks_80 : decode cX12_walks 80 = .ok (.dup2, 1) := by decide +kernel
theorem dX12_walks_81 : decode cX12_walks 81 = .ok (.iaload, 1) := by decide +kernel
theorem dX12_walks_82 : decode cX12_walks 82 = .ok (.iconst 1, 1) := by decide +kernel
theorem dX12_walks_83 : decode cX12_walks 83 = .ok (.isub, 1) := by decide +kernel
theorem dX12_walks_84 : decode cX12_walks 84 = .ok (.iastore, 1) := by decide +kernel
theorem dX12_walks_85 : decode cX12_walks 85 = .ok (.aload_n 0, 1) := by decide +kernel
theorem dX12_walks_86 : decode cX12_walks 86 = .ok (.getfield 396, 3) := by decide +kernel
theorem dX12_walks_89 : decode cX12_walks 89 = .ok (.aload_n 0, 1) := by decide +kernel
theorem dX12_walks_90 : decode cX12_walks 90 = .ok (.getfield 447, 3) := by decide +kernel
theorem dX12_walks_93 : decode cX12_walks 93 = .ok (.iconst 1, 1) := by decide +kernel
theorem dX12_walks_94 : decode cX12_walks 94 = .ok (.isub, 1) := by decide +kernel
theorem dX12_walks_95 : decode cX12_walks 95 = .ok (.iaload, 1) := by decide +kernel
theorem dX12_walks_96 : decode cX12_walks 96 = .ok (.ifCond .le 18, 3) := by decide +kernel
theorem dX12_walks_99 : decode cX12_walks 99 = .ok (.aload_n 0, 1) := by decide +kernel
theorem dX12_walks_100 : decode cX12_walks 100 = .ok (.getfield 390, 3) := by decide +kernel
theorem dX12_walks_103 : decode cX12_walks 103 = .ok (.aload_n 0, 1) := by decide +kernel
theorem dX12_walks_104 : decode cX12_walks 104 = .ok (.getfield 447, 3) := by decide +kernel
theorem dX12_walks_107 : decode cX12_walks 107 = .ok (.iconst 1, 1) := by decide +kernel
theorem dX12_walks_108 : decode cX12_walks 108 = .ok (.isub, 1) := by decide +kernel
theorem dX12_walks_109 : decode cX12_walks 109 = .ok (.iaload, 1) := by decide +kernel
theorem dX12_walks_110 : decode cX12_walks 110 = .ok (.istore_n 1, 1) := by decide +kernel
theorem dX12_walks_111 : decode cX12_walks 111 = .ok (.goto (-78), 3) := by decide +kernel
theorem dX12_walks_114 : decode cX12_walks 114 = .ok (.aload_n 0, 1) := by decide +kernel
theorem dX12_walks_115 : decode cX12_walks 115 = .ok (.dup, 1) := by decide +kernel
theorem dX12_walks_116 : decode cX12_walks 116 = .ok (.getfield 447, 3) := by decide +kernel
theorem dX12_walks_119 : decode cX12_walks 119 = .ok (.iconst 1, 1) := by decide +kernel
theorem dX12_walks_120 : decode cX12_walks 120 = .ok (.isub, 1) := by decide +kernel
theorem dX12_walks_121 : decode cX12_walks 121 = .ok (.putfield 447, 3) := by decide +kernel
theorem dX12_walks_124 : decode cX12_walks 124 = .ok (.aload_n 0, 1) := by decide +kernel
theorem dX12_walks_125 : decode cX12_walks 125 = .ok (.getfield 399, 3) := by decide +kernel
theorem dX12_walks_128 : decode cX12_walks 128 = .ok (.aload_n 0, 1) := by decide +kernel
theorem dX12_walks_129 : decode cX12_walks 129 = .ok (.getfield 447, 3) := by decide +kernel
theorem dX12_walks_132 : decode cX12_walks 132 = .ok (.iaload, 1) := by decide +kernel
theorem dX12_walks_133 : decode cX12_walks 133 = .ok (.istore_n 1, 1) := by decide +kernel
theorem dX12_walks_134 : decode cX12_walks 134 = .ok (.goto (-101), 3) := by decide +kernel
theorem dX12_walks_137 : decode cX12_walks 137 = .ok (.aload_n 0, 1) := by decide +kernel
theorem dX12_walks_138 : decode cX12_walks 138 = .ok (.iload_n 1, 1) := by decide +kernel
theorem dX12_walks_139 : decode cX12_walks 139 = .ok (.invokevirtual 460, 3) := by decide +kernel
theorem dX12_walks_142 : decode cX12_walks 142 = .ok (.istore_n 1, 1) := by decide +kernel
theorem dX12_walks_143 : decode cX12_walks 143 = .ok (.goto (-110), 3) := by decide +kernel
theorem dX12_walks_146 : decode cX12_walks 146 = .ok (.aload_n 0, 1) := by decide +kernel
theorem dX12_walks_147 : decode cX12_walks 147 = .ok (.aload_n 0, 1) := by decide +kernel
theorem dX12_walks_148 : decode cX12_walks 148 = .ok (.getfield 432, 3) := by decide +kernel
theorem dX12_walks_151 : decode cX12_walks 151 = .ok (.putfield 464, 3) := by decide +kernel
theorem dX12_walks_154 : decode cX12_walks 154 = .ok (.return_, 1) := by decide +kernel
theorem dX12_walk_0 : decode cX12_walk 0 = .ok (.aload_n 0, 1) := by decide +kernel
theorem dX12_walk_1 : decode cX12_walk 1 = .ok (.aload_n 0, 1) := by decide +kernel
theorem dX12_walk_2 : decode cX12_walk 2 = .ok (.getfield 186, 3) := by decide +kernel
theorem dX12_walk_5 : decode cX12_walk 5 = .ok (.putfield 201, 3) := by decide +kernel
theorem dX12_walk_8 : decode cX12_walk 8 = .ok (.aload_n 0, 1) := by decide +kernel
theorem dX12_walk_9 : decode cX12_walk 9 = .ok (.iconst 0, 1) := by decide +kernel
theorem dX12_walk_10 : decode cX12_walk 10 = .ok (.putfield 186, 3) := by decide +kernel
theorem dX12_walk_13 : decode cX12_walk 13 = .ok (.aload_n 0, 1) := by decide +kernel
theorem dX12_walk_14 : decode cX12_walk 14 = .ok (.iconst 0, 1) := by decide +kernel
theorem dX12_walk_15 : decode cX12_walk 15 = .ok (.putfield 198, 3) := by decide +kernel
theorem dX12_walk_18 : decode cX12_walk 18 = .ok (.aload_n 0, 1) := by decide +kernel
theorem dX12_walk_19 : decode cX12_walk 19 = .ok (.iconst (-1), 1) := by decide +kernel
theorem dX12_walk_20 : decode cX12_walk 20 = .ok (.putfield 210, 3) := by decide +kernel
theorem dX12_walk_23 : decode cX12_walk 23 = .ok (.aload_n 0, 1) := by decide +kernel
theorem dX12_walk_24 : decode cX12_walk 24 = .ok (.iconst 0, 1) := by decide +kernel
theorem dX12_walk_25 : decode cX12_walk 25 = .ok (.putfield 192, 3) := by decide +kernel
theorem dX12_walk_28 : decode cX12_walk 28 = .ok (.aload_n 0, 1) := by decide +kernel
theorem dX12_walk_29 : decode cX12_walk 29 = .ok (.iconst (-1), 1) := by decide +kernel
theorem dX12_walk_30 : decode cX12_walk 30 = .ok (.putfield 195, 3) := by decide +kernel
theorem dX12_walk_33 : decode cX12_walk 33 = .ok (.aload_n 0, 1) := by decide +kernel
theorem dX12_walk_34 : decode cX12_walk 34 = .ok (.invokevirtual 467, 3) := by decide +kernel
theorem dX12_walk_37 : decode cX12_walk 37 = .ok (.aload_n 0, 1) := by decide +kernel
theorem dX12_walk_38 : decode cX12_walk 38 = .ok (.aload_n 0, 1) := by decide +kernel
theorem dX12_walk_39 : decode cX12_walk 39 = .ok (.getfield 192, 3) := by decide +kernel
theorem dX12_walk_42 : decode cX12_walk 42 = .ok (.putfield 470, 3) := by decide +kernel
theorem dX12_walk_45 : decode cX12_walk 45 = .ok (.aload_n 0, 1) := by decide +kernel
theorem dX12_walk_46 : decode cX12_walk 46 = .ok (.aload_n 0, 1) := by decide +kernel
theorem dX12_walk_47 : decode cX12_walk 47 = .ok (.getfield 195, 3) := by decide +kernel
theorem dX12_walk_50 : decode cX12_walk 50 = .ok (.putfield 378, 3) := by decide +kernel
theorem dX12_walk_53 : decode cX12_walk 53 = .ok (.aload_n 0, 1) := by decide +kernel
theorem dX12_walk_54 : decode cX12_walk 54 = .ok (.getfield 192, 3) := by decide +kernel
theorem dX12_walk_57 : decode cX12_walk 57 = .ok (.ifCond .eq 5, 3) := by decide +kernel
theorem dX12_walk_60 : decode cX12_walk 60 = .ok (.iconst (-1), 1) := by decide +kernel
theorem dX12_walk_61 : decode cX12_walk 61 = .ok (.ireturn, 1) := by decide +kernel
theorem dX12_walk_62 : decode cX12_walk 62 = .ok (.aload_n 0, 1) := by decide +kernel
theorem dX12_walk_63 : decode cX12_walk 63 = .ok (.invokevirtual 473, 3) := by decide +kernel
theorem dX12_walk_66 : decode cX12_walk 66 = .ok (.aload_n 0, 1) := by decide +kernel
theorem dX12_walk_67 : decode cX12_walk 67 = .ok (.getfield 464, 3) := by decide +kernel
theorem dX12_walk_70 : decode cX12_walk 70 = .ok (.ireturn, 1) := by decide +kernel
theorem dX12_fault_0 : decode cX12_fault 0 = .ok (.iload_n 1, 1) := by decide +kernel
theorem dX12_fault_1 : decode cX12_fault 1 = .ok (.ifCond .ne 10, 3) := by decide +kernel
theorem dX12_fault_4 : decode cX12_fault 4 = .ok (.aload_n 0, 1) := by decide +kernel
theorem dX12_fault_5 : decode cX12_fault 5 = .ok (.getfield 470, 3) := by decide +kernel
theorem dX12_fault_8 : decode cX12_fault 8 = .ok (.goto 16, 3) := by decide +kernel
theorem dX12_fault_11 : decode cX12_fault 11 = .ok (.iload_n 1, 1) := by decide +kernel
theorem dX12_fault_12 : decode cX12_fault 12 = .ok (.iconst 1, 1) := by decide +kernel
theorem dX12_fault_13 : decode cX12_fault 13 = .ok (.if_icmp .ne 10, 3) := by decide +kernel
theorem dX12_fault_16 : decode cX12_fault 16 = .ok (.aload_n 0, 1) := by decide +kernel
theorem dX12_fault_17 : decode cX12_fault 17 = .ok (.getfield 378, 3) := by decide +kernel
theorem dX12_fault_20 : decode cX12_fault 20 = .ok (.goto 4, 3) := by decide +kernel
theorem dX12_fault_23 : decode cX12_fault 23 = .ok (.iconst (-1), 1) := by decide +kernel
theorem dX12_fault_24 : decode cX12_fault 24 = .ok (.ireturn, 1) := by decide +kernel
theorem dX12_feetX_0 : decode cX12_feetX 0 = .ok (.aload_n 0, 1) := by decide +kernel
theorem dX12_feetX_1 : decode cX12_feetX 1 = .ok (.getfield 28, 3) := by decide +kernel
theorem dX12_feetX_4 : decode cX12_feetX 4 = .ok (.aload_n 0, 1) := by decide +kernel
theorem dX12_feetX_5 : decode cX12_feetX 5 = .ok (.getfield 34, 3) := by decide +kernel
theorem dX12_feetX_8 : decode cX12_feetX 8 = .ok (.aload_n 0, 1) := by decide +kernel
theorem dX12_feetX_9 : decode cX12_feetX 9 = .ok (.getfield 28, 3) := by decide +kernel
theorem dX12_feetX_12 : decode cX12_feetX 12 = .ok (.isub, 1) := by decide +kernel
theorem dX12_feetX_13 : decode cX12_feetX 13 = .ok (.aload_n 0, 1) := by decide +kernel
theorem dX12_feetX_14 : decode cX12_feetX 14 = .ok (.getfield 381, 3) := by decide +kernel
theorem dX12_feetX_17 : decode cX12_feetX 17 = .ok (.iload_n 1, 1) := by decide +kernel
theorem dX12_feetX_18 : decode cX12_feetX 18 = .ok (.iaload, 1) := by decide +kernel
theorem dX12_feetX_19 : decode cX12_feetX 19 = .ok (.imul, 1) := by decide +kernel
theorem dX12_feetX_20 : decode cX12_feetX 20 = .ok (.sipush 1000, 3) := by decide +kernel
theorem dX12_feetX_23 : decode cX12_feetX 23 = .ok (.invokestatic 441, 3) := by decide +kernel
theorem dX12_feetX_26 : decode cX12_feetX 26 = .ok (.iadd, 1) := by decide +kernel
theorem dX12_feetX_27 : decode cX12_feetX 27 = .ok (.ireturn, 1) := by decide +kernel
theorem dX12_feetY_0 : decode cX12_feetY 0 = .ok (.aload_n 0, 1) := by decide +kernel
theorem dX12_feetY_1 : decode cX12_feetY 1 = .ok (.getfield 31, 3) := by decide +kernel
theorem dX12_feetY_4 : decode cX12_feetY 4 = .ok (.aload_n 0, 1) := by decide +kernel
theorem dX12_feetY_5 : decode cX12_feetY 5 = .ok (.getfield 46, 3) := by decide +kernel
theorem dX12_feetY_8 : decode cX12_feetY 8 = .ok (.isub, 1) := by decide +kernel
theorem dX12_feetY_9 : decode cX12_feetY 9 = .ok (.aload_n 0, 1) := by decide +kernel
theorem dX12_feetY_10 : decode cX12_feetY 10 = .ok (.getfield 37, 3) := by decide +kernel
theorem dX12_feetY_13 : decode cX12_feetY 13 = .ok (.aload_n 0, 1) := by decide +kernel
theorem dX12_feetY_14 : decode cX12_feetY 14 = .ok (.getfield 31, 3) := by decide +kernel
theorem dX12_feetY_17 : decode cX12_feetY 17 = .ok (.isub, 1) := by decide +kernel
theorem dX12_feetY_18 : decode cX12_feetY 18 = .ok (.aload_n 0, 1) := by decide +kernel
theorem dX12_feetY_19 : decode cX12_feetY 19 = .ok (.getfield 381, 3) := by decide +kernel
theorem dX12_feetY_22 : decode cX12_feetY 22 = .ok (.iload_n 1, 1) := by decide +kernel
theorem dX12_feetY_23 : decode cX12_feetY 23 = .ok (.iaload, 1) := by decide +kernel
theorem dX12_feetY_24 : decode cX12_feetY 24 = .ok (.imul, 1) := by decide +kernel
theorem dX12_feetY_25 : decode cX12_feetY 25 = .ok (.sipush 1000, 3) := by decide +kernel
theorem dX12_feetY_28 : decode cX12_feetY 28 = .ok (.invokestatic 441, 3) := by decide +kernel
theorem dX12_feetY_31 : decode cX12_feetY 31 = .ok (.iadd, 1) := by decide +kernel
theorem dX12_feetY_32 : decode cX12_feetY 32 = .ok (.ireturn, 1) := by decide +kernel
theorem dX12_isHeld_0 : decode cX12_isHeld 0 = .ok (.aload_n 0, 1) := by decide +kernel
theorem dX12_isHeld_1 : decode cX12_isHeld 1 = .ok (.aload_n 0, 1) := by decide +kernel
theorem dX12_isHeld_2 : decode cX12_isHeld 2 = .ok (.iload_n 1, 1) := by decide +kernel
theorem dX12_isHeld_3 : decode cX12_isHeld 3 = .ok (.invokevirtual 476, 3) := by decide +kernel
theorem dX12_isHeld_6 : decode cX12_isHeld 6 = .ok (.i2l, 1) := by decide +kernel
theorem dX12_isHeld_7 : decode cX12_isHeld 7 = .ok (.aload_n 0, 1) := by decide +kernel
theorem dX12_isHeld_8 : decode cX12_isHeld 8 = .ok (.iload_n 1, 1) := by decide +kernel
theorem dX12_isHeld_9 : decode cX12_isHeld 9 = .ok (.invokevirtual 479, 3) := by decide +kernel
theorem dX12_isHeld_12 : decode cX12_isHeld 12 = .ok (.i2l, 1) := by decide +kernel
theorem dX12_isHeld_13 : decode cX12_isHeld 13 = .ok (.invokevirtual 121, 3) := by decide +kernel
theorem dX12_isHeld_16 : decode cX12_isHeld 16 = .ok (.aload_n 0, 1) := by decide +kernel
theorem dX12_isHeld_17 : decode cX12_isHeld 17 = .ok (.getfield 40, 3) := by decide +kernel
theorem dX12_isHeld_20 : decode cX12_isHeld 20 = .ok (.i2l, 1) := by decide +kernel
theorem dX12_isHeld_21 : decode cX12_isHeld 21 = .ok (.aload_n 0, 1) := by decide +kernel
theorem dX12_isHeld_22 : decode cX12_isHeld 22 = .ok (.invokevirtual 104, 3) := by decide +kernel
theorem dX12_isHeld_25 : decode cX12_isHeld 25 = .ok (.lmul, 1) := by decide +kernel
theorem dX12_isHeld_26 : decode cX12_isHeld 26 = .ok (.lsub, 1) := by decide +kernel
theorem dX12_isHeld_27 : decode cX12_isHeld 27 = .ok (.lstore_n 2, 1) := by decide +kernel
theorem dX12_isHeld_28 : decode cX12_isHeld 28 = .ok (.lload_n 2, 1) := by decide +kernel
theorem dX12_isHeld_29 : decode cX12_isHeld 29 = .ok (.aload_n 0, 1) := by decide +kernel
theorem dX12_isHeld_30 : decode cX12_isHeld 30 = .ok (.getfield 43, 3) := by decide +kernel
theorem dX12_isHeld_33 : decode cX12_isHeld 33 = .ok (.i2l, 1) := by decide +kernel
theorem dX12_isHeld_34 : decode cX12_isHeld 34 = .ok (.aload_n 0, 1) := by decide +kernel
theorem dX12_isHeld_35 : decode cX12_isHeld 35 = .ok (.invokevirtual 104, 3) := by decide +kernel
theorem dX12_isHeld_38 : decode cX12_isHeld 38 = .ok (.lmul, 1) := by decide +kernel
theorem dX12_isHeld_39 : decode cX12_isHeld 39 = .ok (.lcmp, 1) := by decide +kernel
theorem dX12_isHeld_40 : decode cX12_isHeld 40 = .ok (.ifCond .gt 23, 3) := by decide +kernel
theorem dX12_isHeld_43 : decode cX12_isHeld 43 = .ok (.lload_n 2, 1) := by decide +kernel
theorem dX12_isHeld_44 : decode cX12_isHeld 44 = .ok (.lneg, 1) := by decide +kernel
theorem dX12_isHeld_45 : decode cX12_isHeld 45 = .ok (.aload_n 0, 1) := by decide +kernel
theorem dX12_isHeld_46 : decode cX12_isHeld 46 = .ok (.getfield 43, 3) := by decide +kernel
theorem dX12_isHeld_49 : decode cX12_isHeld 49 = .ok (.i2l, 1) := by decide +kernel
theorem dX12_isHeld_50 : decode cX12_isHeld 50 = .ok (.aload_n 0, 1) := by decide +kernel
theorem dX12_isHeld_51 : decode cX12_isHeld 51 = .ok (.invokevirtual 104, 3) := by decide +kernel
theorem dX12_isHeld_54 : decode cX12_isHeld 54 = .ok (.lmul, 1) := by decide +kernel
theorem dX12_isHeld_55 : decode cX12_isHeld 55 = .ok (.lcmp, 1) := by decide +kernel
theorem dX12_isHeld_56 : decode cX12_isHeld 56 = .ok (.ifCond .gt 7, 3) := by decide +kernel
theorem dX12_isHeld_59 : decode cX12_isHeld 59 = .ok (.iconst 1, 1) := by decide +kernel
theorem dX12_isHeld_60 : decode cX12_isHeld 60 = .ok (.goto 4, 3) := by decide +kernel
theorem dX12_isHeld_63 : decode cX12_isHeld 63 = .ok (.iconst 0, 1) := by decide +kernel
theorem dX12_isHeld_64 : decode cX12_isHeld 64 = .ok (.ireturn, 1) := by decide +kernel
theorem dX12_clashes_0 : decode cX12_clashes 0 = .ok (.aload_n 0, 1) := by decide +kernel
theorem dX12_clashes_1 : decode cX12_clashes 1 = .ok (.aload_n 0, 1) := by decide +kernel
theorem dX12_clashes_2 : decode cX12_clashes 2 = .ok (.iload_n 1, 1) := by decide +kernel
theorem dX12_clashes_3 : decode cX12_clashes 3 = .ok (.invokevirtual 476, 3) := by decide +kernel
theorem dX12_clashes_6 : decode cX12_clashes 6 = .ok (.i2l, 1) := by decide +kernel
theorem dX12_clashes_7 : decode cX12_clashes 7 = .ok (.aload_n 0, 1) := by decide +kernel
theorem dX12_clashes_8 : decode cX12_clashes 8 = .ok (.iload_n 1, 1) := by decide +kernel
theorem dX12_clashes_9 : decode cX12_clashes 9 = .ok (.invokevirtual 479, 3) := by decide +kernel
theorem dX12_clashes_12 : decode cX12_clashes 12 = .ok (.aload_n 0, 1) := by decide +kernel
theorem dX12_clashes_13 : decode cX12_clashes 13 = .ok (.getfield 384, 3) := by decide +kernel
theorem dX12_clashes_16 : decode cX12_clashes 16 = .ok (.iload_n 1, 1) := by decide +kernel
theorem dX12_clashes_17 : decode cX12_clashes 17 = .ok (.iaload, 1) := by decide +kernel
theorem dX12_clashes_18 : decode cX12_clashes 18 = .ok (.iadd, 1) := by decide +kernel
theorem dX12_clashes_19 : decode cX12_clashes 19 = .ok (.i2l, 1) := by decide +kernel
theorem dX12_clashes_20 : decode cX12_clashes 20 = .ok (.invokevirtual 118, 3) := by decide +kernel
theorem dX12_clashes_23 : decode cX12_clashes 23 = .ok (.lstore_n 2, 1) := by decide +kernel
theorem dX12_clashes_24 : decode cX12_clashes 24 = .ok (.aload_n 0, 1) := by decide +kernel
theorem dX12_clashes_25 : decode cX12_clashes 25 = .ok (.aload_n 0, 1) := by decide +kernel
theorem dX12_clashes_26 : decode cX12_clashes 26 = .ok (.iload_n 1, 1) := by decide +kernel
theorem dX12_clashes_27 : decode cX12_clashes 27 = .ok (.invokevirtual 476, 3) := by decide +kernel
theorem dX12_clashes_30 : decode cX12_clashes 30 = .ok (.i2l, 1) := by decide +kernel
theorem dX12_clashes_31 : decode cX12_clashes 31 = .ok (.aload_n 0, 1) := by decide +kernel
theorem dX12_clashes_32 : decode cX12_clashes 32 = .ok (.iload_n 1, 1) := by decide +kernel
theorem dX12_clashes_33 : decode cX12_clashes 33 = .ok (.invokevirtual 479, 3) := by decide +kernel
theorem dX12_clashes_36 : decode cX12_clashes 36 = .ok (.aload_n 0, 1) := by decide +kernel
theorem dX12_clashes_37 : decode cX12_clashes 37 = .ok (.getfield 384, 3) := by decide +kernel
theorem dX12_clashes_40 : decode cX12_clashes 40 = .ok (.iload_n 1, 1) := by decide +kernel
theorem dX12_clashes_41 : decode cX12_clashes 41 = .ok (.iaload, 1) := by decide +kernel
theorem dX12_clashes_42 : decode cX12_clashes 42 = .ok (.iadd, 1) := by decide +kernel
theorem dX12_clashes_43 : decode cX12_clashes 43 = .ok (.i2l, 1) := by decide +kernel
theorem dX12_clashes_44 : decode cX12_clashes 44 = .ok (.invokevirtual 121, 3) := by decide +kernel
theorem dX12_clashes_47 : decode cX12_clashes 47 = .ok (.lstore 4, 2) := by decide +kernel
theorem dX12_clashes_49 : decode cX12_clashes 49 = .ok (.aload_n 0, 1) := by decide +kernel
theorem dX12_clashes_50 : decode cX12_clashes 50 = .ok (.invokevirtual 104, 3) := by decide +kernel
theorem dX12_clashes_53 : decode cX12_clashes 53 = .ok (.lstore 6, 2) := by decide +kernel
theorem dX12_clashes_55 : decode cX12_clashes 55 = .ok (.iconst 0, 1) := by decide +kernel
theorem dX12_clashes_56 : decode cX12_clashes 56 = .ok (.istore 8, 2) := by decide +kernel
theorem dX12_clashes_58 : decode cX12_clashes 58 = .ok (.iconst 0, 1) := by decide +kernel
theorem dX12_clashes_59 : decode cX12_clashes 59 = .ok (.istore 9, 2) := by decide +kernel
theorem dX12_clashes_61 : decode cX12_clashes 61 = .ok (.iload 9, 2) := by decide +kernel
theorem dX12_clashes_63 : decode cX12_clashes 63 = .ok (.bipush 8, 2) := by decide +kernel
theorem dX12_clashes_65 : decode cX12_clashes 65 = .ok (.if_icmp .ge 94, 3) := by decide +kernel
theorem dX12_clashes_68 : decode cX12_clashes 68 = .ok (.aload_n 0, 1) := by decide +kernel
theorem dX12_clashes_69 : decode cX12_clashes 69 = .ok (.getfield 78, 3) := by decide +kernel
theorem dX12_clashes_72 : decode cX12_clashes 72 = .ok (.iload 9, 2) := by decide +kernel
theorem dX12_clashes_74 : decode cX12_clashes 74 = .ok (.baload, 1) := by decide +kernel
theorem dX12_clashes_75 : decode cX12_clashes 75 = .ok (.ifCond .eq 78, 3) := by decide +kernel
theorem dX12_clashes_78 : decode cX12_clashes 78 = .ok (.lload_n 2, 1) := by decide +kernel
theorem dX12_clashes_79 : decode cX12_clashes 79 = .ok (.aload_n 0, 1) := by decide +kernel
theorem dX12_clashes_80 : decode cX12_clashes 80 = .ok (.getfield 81, 3) := by decide +kernel
theorem dX12_clashes_83 : decode cX12_clashes 83 = .ok (.iload 9, 2) := by decide +kernel
theorem dX12_clashes_85 : decode cX12_clashes 85 = .ok (.iaload, 1) := by decide +kernel
theorem dX12_clashes_86 : decode cX12_clashes 86 = .ok (.i2l, 1) := by decide +kernel
theorem dX12_clashes_87 : decode cX12_clashes 87 = .ok (.lload 6, 2) := by decide +kernel
theorem dX12_clashes_89 : decode cX12_clashes 89 = .ok (.lmul, 1) := by decide +kernel
theorem dX12_clashes_90 : decode cX12_clashes 90 = .ok (.lcmp, 1) := by decide +kernel
theorem dX12_clashes_91 : decode cX12_clashes 91 = .ok (.ifCond .le 62, 3) := by decide +kernel
theorem dX12_clashes_94 : decode cX12_clashes 94 = .ok (.lload_n 2, 1) := by decide +kernel
theorem dX12_clashes_95 : decode cX12_clashes 95 = .ok (.aload_n 0, 1) := by decide +kernel
theorem dX12_clashes_96 : decode cX12_clashes 96 = .ok (.getfield 84, 3) := by decide +kernel
theorem dX12_clashes_99 : decode cX12_clashes 99 = .ok (.iload 9, 2) := by decide +kernel
theorem dX12_clashes_101 : decode cX12_clashes 101 = .ok (.iaload, 1) := by decide +kernel
theorem dX12_clashes_102 : decode cX12_clashes 102 = .ok (.i2l, 1) := by decide +kernel
theorem dX12_clashes_103 : decode cX12_clashes 103 = .ok (.lload 6, 2) := by decide +kernel
theorem dX12_clashes_105 : decode cX12_clashes 105 = .ok (.lmul, 1) := by decide +kernel
theorem dX12_clashes_106 : decode cX12_clashes 106 = .ok (.lcmp, 1) := by decide +kernel
theorem dX12_clashes_107 : decode cX12_clashes 107 = .ok (.ifCond .ge 46, 3) := by decide +kernel
theorem dX12_clashes_110 : decode cX12_clashes 110 = .ok (.lload 4, 2) := by decide +kernel
theorem dX12_clashes_112 : decode cX12_clashes 112 = .ok (.aload_n 0, 1) := by decide +kernel
theorem dX12_clashes_113 : decode cX12_clashes 113 = .ok (.getfield 87, 3) := by decide +kernel
theorem dX12_clashes_116 : decode cX12_clashes 116 = .ok (.iload 9, 2) := by decide +kernel
theorem dX12_clashes_118 : decode cX12_clashes 118 = .ok (.iaload, 1) := by decide +kernel
theorem dX12_clashes_119 : decode cX12_clashes 119 = .ok (.i2l, 1) := by decide +kernel
theorem dX12_clashes_120 : decode cX12_clashes 120 = .ok (.lload 6, 2) := by decide +kernel
theorem dX12_clashes_122 : decode cX12_clashes 122 = .ok (.lmul, 1) := by decide +kernel
theorem dX12_clashes_123 : decode cX12_clashes 123 = .ok (.lcmp, 1) := by decide +kernel
theorem dX12_clashes_124 : decode cX12_clashes 124 = .ok (.ifCond .le 29, 3) := by decide +kernel
theorem dX12_clashes_127 : decode cX12_clashes 127 = .ok (.lload 4, 2) := by decide +kernel
theorem dX12_clashes_129 : decode cX12_clashes 129 = .ok (.aload_n 0, 1) := by decide +kernel
theorem dX12_clashes_130 : decode cX12_clashes 130 = .ok (.getfield 90, 3) := by decide +kernel
theorem dX12_clashes_133 : decode cX12_clashes 133 = .ok (.iload 9, 2) := by decide +kernel
theorem dX12_clashes_135 : decode cX12_clashes 135 = .ok (.iaload, 1) := by decide +kernel
theorem dX12_clashes_136 : decode cX12_clashes 136 = .ok (.i2l, 1) := by decide +kernel
theorem dX12_clashes_137 : decode cX12_clashes 137 = .ok (.lload 6, 2) := by decide +kernel
theorem dX12_clashes_139 : decode cX12_clashes 139 = .ok (.lmul, 1) := by decide +kernel
theorem dX12_clashes_140 : decode cX12_clashes 140 = .ok (.lcmp, 1) := by decide +kernel
theorem dX12_clashes_141 : decode cX12_clashes 141 = .ok (.ifCond .ge 12, 3) := by decide +kernel
theorem dX12_clashes_144 : decode cX12_clashes 144 = .ok (.iload 8, 2) := by decide +kernel
theorem dX12_clashes_146 : decode cX12_clashes 146 = .ok (.iconst 1, 1) := by decide +kernel
theorem dX12_clashes_147 : decode cX12_clashes 147 = .ok (.iload 9, 2) := by decide +kernel
theorem dX12_clashes_149 : decode cX12_clashes 149 = .ok (.ishl, 1) := by decide +kernel
theorem dX12_clashes_150 : decode cX12_clashes 150 = .ok (.ior, 1) := by decide +kernel
theorem dX12_clashes_151 : decode cX12_clashes 151 = .ok (.istore 8, 2) := by decide +kernel
theorem dX12_clashes_153 : decode cX12_clashes 153 = .ok (.iinc 9 1, 3) := by decide +kernel
theorem dX12_clashes_156 : decode cX12_clashes 156 = .ok (.goto (-95), 3) := by decide +kernel
theorem dX12_clashes_159 : decode cX12_clashes 159 = .ok (.iload 8, 2) := by decide +kernel
theorem dX12_clashes_161 : decode cX12_clashes 161 = .ok (.ireturn, 1) := by decide +kernel
theorem dX12_isCount_0 : decode cX12_isCount 0 = .ok (.iload_n 1, 1) := by decide +kernel
theorem dX12_isCount_1 : decode cX12_isCount 1 = .ok (.iconst 0, 1) := by decide +kernel
theorem dX12_isCount_2 : decode cX12_isCount 2 = .ok (.aload_n 0, 1) := by decide +kernel
theorem dX12_isCount_3 : decode cX12_isCount 3 = .ok (.getfield 464, 3) := by decide +kernel
theorem dX12_isCount_6 : decode cX12_isCount 6 = .ok (.invokestatic 3, 3) := by decide +kernel
theorem dX12_isCount_9 : decode cX12_isCount 9 = .ok (.ireturn, 1) := by decide +kernel
theorem dX12_count_0 : decode cX12_count 0 = .ok (.aload_n 0, 1) := by decide +kernel
theorem dX12_count_1 : decode cX12_count 1 = .ok (.iload_n 1, 1) := by decide +kernel
theorem dX12_count_2 : decode cX12_count 2 = .ok (.invokevirtual 482, 3) := by decide +kernel
theorem dX12_count_5 : decode cX12_count 5 = .ok (.ifCond .ne 7, 3) := by decide +kernel
theorem dX12_count_8 : decode cX12_count 8 = .ok (.sipush (-1000), 3) := by decide +kernel
theorem dX12_count_11 : decode cX12_count 11 = .ok (.ireturn, 1) := by decide +kernel
theorem dX12_count_12 : decode cX12_count 12 = .ok (.iload_n 2, 1) := by decide +kernel
theorem dX12_count_13 : decode cX12_count 13 = .ok (.tableswitch 103 0 6 #[43, 50, 57, 64, 70, 83, 97], 43) := by decide +kernel
theorem dX12_count_56 : decode cX12_count 56 = .ok (.aload_n 0, 1) := by decide +kernel
theorem dX12_count_57 : decode cX12_count 57 = .ok (.getfield 381, 3) := by decide +kernel
theorem dX12_count_60 : decode cX12_count 60 = .ok (.iload_n 1, 1) := by decide +kernel
theorem dX12_count_61 : decode cX12_count 61 = .ok (.iaload, 1) := by decide +kernel
theorem dX12_count_62 : decode cX12_count 62 = .ok (.ireturn, 1) := by decide +kernel
theorem dX12_count_63 : decode cX12_count 63 = .ok (.aload_n 0, 1) := by decide +kernel
theorem dX12_count_64 : decode cX12_count 64 = .ok (.getfield 384, 3) := by decide +kernel
theorem dX12_count_67 : decode cX12_count 67 = .ok (.iload_n 1, 1) := by decide +kernel
theorem dX12_count_68 : decode cX12_count 68 = .ok (.iaload, 1) := by decide +kernel
theorem dX12_count_69 : decode cX12_count 69 = .ok (.ireturn, 1) := by decide +kernel
theorem dX12_count_70 : decode cX12_count 70 = .ok (.aload_n 0, 1) := by decide +kernel
theorem dX12_count_71 : decode cX12_count 71 = .ok (.getfield 387, 3) := by decide +kernel
theorem dX12_count_74 : decode cX12_count 74 = .ok (.iload_n 1, 1) := by decide +kernel
theorem dX12_count_75 : decode cX12_count 75 = .ok (.iaload, 1) := by decide +kernel
theorem dX12_count_76 : decode cX12_count 76 = .ok (.ireturn, 1) := by decide +kernel
theorem dX12_count_77 : decode cX12_count 77 = .ok (.aload_n 0, 1) := by decide +kernel
theorem dX12_count_78 : decode cX12_count 78 = .ok (.iload_n 1, 1) := by decide +kernel
theorem dX12_count_79 : decode cX12_count 79 = .ok (.invokevirtual 476, 3) := by decide +kernel
theorem dX12_count_82 : decode cX12_count 82 = .ok (.ireturn, 1) := by decide +kernel
theorem dX12_count_83 : decode cX12_count 83 = .ok (.aload_n 0, 1) := by decide +kernel
theorem dX12_count_84 : decode cX12_count 84 = .ok (.iload_n 1, 1) := by decide +kernel
theorem dX12_count_85 : decode cX12_count 85 = .ok (.invokevirtual 479, 3) := by decide +kernel
theorem dX12_count_88 : decode cX12_count 88 = .ok (.aload_n 0, 1) := by decide +kernel
theorem dX12_count_89 : decode cX12_count 89 = .ok (.getfield 384, 3) := by decide +kernel
theorem dX12_count_92 : decode cX12_count 92 = .ok (.iload_n 1, 1) := by decide +kernel
theorem dX12_count_93 : decode cX12_count 93 = .ok (.iaload, 1) := by decide +kernel
theorem dX12_count_94 : decode cX12_count 94 = .ok (.iadd, 1) := by decide +kernel
theorem dX12_count_95 : decode cX12_count 95 = .ok (.ireturn, 1) := by decide +kernel
theorem dX12_count_96 : decode cX12_count 96 = .ok (.aload_n 0, 1) := by decide +kernel
theorem dX12_count_97 : decode cX12_count 97 = .ok (.iload_n 1, 1) := by decide +kernel
theorem dX12_count_98 : decode cX12_count 98 = .ok (.invokevirtual 485, 3) := by decide +kernel
theorem dX12_count_101 : decode cX12_count 101 = .ok (.ifCond .eq 7, 3) := by decide +kernel
theorem dX12_count_104 : decode cX12_count 104 = .ok (.iconst 1, 1) := by decide +kernel
theorem dX12_count_105 : decode cX12_count 105 = .ok (.goto 4, 3) := by decide +kernel
theorem dX12_count_108 : decode cX12_count 108 = .ok (.iconst 0, 1) := by decide +kernel
theorem dX12_count_109 : decode cX12_count 109 = .ok (.ireturn, 1) := by decide +kernel
theorem dX12_count_110 : decode cX12_count 110 = .ok (.aload_n 0, 1) := by decide +kernel
theorem dX12_count_111 : decode cX12_count 111 = .ok (.iload_n 1, 1) := by decide +kernel
theorem dX12_count_112 : decode cX12_count 112 = .ok (.invokevirtual 488, 3) := by decide +kernel
theorem dX12_count_115 : decode cX12_count 115 = .ok (.ireturn, 1) := by decide +kernel
theorem dX12_count_116 : decode cX12_count 116 = .ok (.sipush (-1000), 3) := by decide +kernel
theorem dX12_count_119 : decode cX12_count 119 = .ok (.ireturn, 1) := by decide +kernel
theorem dX12_has_0 : decode cX12_has 0 = .ok (.aload_n 0, 1) := by decide +kernel
theorem dX12_has_1 : decode cX12_has 1 = .ok (.iload_n 1, 1) := by decide +kernel
theorem dX12_has_2 : decode cX12_has 2 = .ok (.invokevirtual 93, 3) := by decide +kernel
theorem dX12_has_5 : decode cX12_has 5 = .ok (.ifCond .eq 11, 3) := by decide +kernel
theorem dX12_has_8 : decode cX12_has 8 = .ok (.aload_n 0, 1) := by decide +kernel
theorem dX12_has_9 : decode cX12_has 9 = .ok (.iload_n 2, 1) := by decide +kernel
theorem dX12_has_10 : decode cX12_has 10 = .ok (.invokevirtual 482, 3) := by decide +kernel
theorem dX12_has_13 : decode cX12_has 13 = .ok (.ifCond .ne 5, 3) := by decide +kernel
theorem dX12_has_16 : decode cX12_has 16 = .ok (.iconst (-1), 1) := by decide +kernel
theorem dX12_has_17 : decode cX12_has 17 = .ok (.ireturn, 1) := by decide +kernel
theorem dX12_has_18 : decode cX12_has 18 = .ok (.aload_n 0, 1) := by decide +kernel
theorem dX12_has_19 : decode cX12_has 19 = .ok (.iload_n 1, 1) := by decide +kernel
theorem dX12_has_20 : decode cX12_has 20 = .ok (.iload_n 2, 1) := by decide +kernel
theorem dX12_has_21 : decode cX12_has 21 = .ok (.invokevirtual 494, 3) := by decide +kernel
theorem dX12_has_24 : decode cX12_has 24 = .ok (.ifCond .eq 7, 3) := by decide +kernel
theorem dX12_has_27 : decode cX12_has 27 = .ok (.iconst 1, 1) := by decide +kernel
theorem dX12_has_28 : decode cX12_has 28 = .ok (.goto 4, 3) := by decide +kernel
theorem dX12_has_31 : decode cX12_has 31 = .ok (.iconst 0, 1) := by decide +kernel
theorem dX12_has_32 : decode cX12_has 32 = .ok (.ireturn, 1) := by decide +kernel
theorem dX12_counts_0 : decode cX12_counts 0 = .ok (.aload_n 0, 1) := by decide +kernel
theorem dX12_counts_1 : decode cX12_counts 1 = .ok (.iload_n 1, 1) := by decide +kernel
theorem dX12_counts_2 : decode cX12_counts 2 = .ok (.invokevirtual 93, 3) := by decide +kernel
theorem dX12_counts_5 : decode cX12_counts 5 = .ok (.ifCond .eq 11, 3) := by decide +kernel
theorem dX12_counts_8 : decode cX12_counts 8 = .ok (.aload_n 0, 1) := by decide +kernel
theorem dX12_counts_9 : decode cX12_counts 9 = .ok (.iload_n 1, 1) := by decide +kernel
theorem dX12_counts_10 : decode cX12_counts 10 = .ok (.invokevirtual 497, 3) := by decide +kernel
theorem dX12_counts_13 : decode cX12_counts 13 = .ok (.goto 4, 3) := by decide +kernel
theorem dX12_counts_16 : decode cX12_counts 16 = .ok (.iconst (-1), 1) := by decide +kernel
theorem dX12_counts_17 : decode cX12_counts 17 = .ok (.ireturn, 1) := by decide +kernel
theorem dX12_house_0 : decode cX12_house 0 = .ok (.iconst 0, 1) := by decide +kernel
theorem dX12_house_1 : decode cX12_house 1 = .ok (.istore_n 1, 1) := by decide +kernel
theorem dX12_house_2 : decode cX12_house 2 = .ok (.iconst 0, 1) := by decide +kernel
theorem dX12_house_3 : decode cX12_house 3 = .ok (.istore_n 2, 1) := by decide +kernel
theorem dX12_house_4 : decode cX12_house 4 = .ok (.iload_n 2, 1) := by decide +kernel
theorem dX12_house_5 : decode cX12_house 5 = .ok (.bipush 8, 2) := by decide +kernel
theorem dX12_house_7 : decode cX12_house 7 = .ok (.if_icmp .ge 26, 3) := by decide +kernel
theorem dX12_house_10 : decode cX12_house 10 = .ok (.aload_n 0, 1) := by decide +kernel
theorem dX12_house_11 : decode cX12_house 11 = .ok (.getfield 49, 3) := by decide +kernel
theorem dX12_house_14 : decode cX12_house 14 = .ok (.iload_n 2, 1) := by decide +kernel
theorem dX12_house_15 : decode cX12_house 15 = .ok (.baload, 1) := by decide +kernel
theorem dX12_house_16 : decode cX12_house 16 = .ok (.ifCond .eq 11, 3) := by decide +kernel
theorem dX12_house_19 : decode cX12_house 19 = .ok (.iload_n 1, 1) := by decide +kernel
theorem dX12_house_20 : decode cX12_house 20 = .ok (.aload_n 0, 1) := by decide +kernel
theorem dX12_house_21 : decode cX12_house 21 = .ok (.iload_n 2, 1) := by decide +kernel
theorem dX12_house_22 : decode cX12_house 22 = .ok (.invokevirtual 497, 3) := by decide +kernel
theorem dX12_house_25 : decode cX12_house 25 = .ok (.iadd, 1) := by decide +kernel
theorem dX12_house_26 : decode cX12_house 26 = .ok (.istore_n 1, 1) := by decide +kernel
theorem dX12_house_27 : decode cX12_house 27 = .ok (.iinc 2 1, 3) := by decide +kernel
theorem dX12_house_30 : decode cX12_house 30 = .ok (.goto (-26), 3) := by decide +kernel
theorem dX12_house_33 : decode cX12_house 33 = .ok (.iload_n 1, 1) := by decide +kernel
theorem dX12_house_34 : decode cX12_house 34 = .ok (.ireturn, 1) := by decide +kernel
theorem dX12_canAll_0 : decode cX12_canAll 0 = .ok (.iconst 0, 1) := by decide +kernel
theorem dX12_canAll_1 : decode cX12_canAll 1 = .ok (.istore 6, 2) := by decide +kernel
theorem dX12_canAll_3 : decode cX12_canAll 3 = .ok (.iload 6, 2) := by decide +kernel
theorem dX12_canAll_5 : decode cX12_canAll 5 = .ok (.iload_n 1, 1) := by decide +kernel
theorem dX12_canAll_6 : decode cX12_canAll 6 = .ok (.if_icmp .ge 61, 3) := by decide +kernel
theorem dX12_canAll_9 : decode cX12_canAll 9 = .ok (.aload_n 0, 1) := by decide +kernel
theorem dX12_canAll_10 : decode cX12_canAll 10 = .ok (.getfield 22, 3) := by decide +kernel
theorem dX12_canAll_13 : decode cX12_canAll 13 = .ok (.iload 6, 2) := by decide +kernel
theorem dX12_canAll_15 : decode cX12_canAll 15 = .ok (.iload_n 2, 1) := by decide +kernel
theorem dX12_canAll_16 : decode cX12_canAll 16 = .ok (.imul, 1) := by decide +kernel
theorem dX12_canAll_17 : decode cX12_canAll 17 = .ok (.iadd, 1) := by decide +kernel
theorem dX12_canAll_18 : decode cX12_canAll 18 = .ok (.istore 7, 2) := by decide +kernel
theorem dX12_canAll_20 : decode cX12_canAll 20 = .ok (.aload_n 0, 1) := by decide +kernel
theorem dX12_canAll_21 : decode cX12_canAll 21 = .ok (.getfield 25, 3) := by decide +kernel
theorem dX12_canAll_24 : decode cX12_canAll 24 = .ok (.iload 6, 2) := by decide +kernel
theorem dX12_canAll_26 : decode cX12_canAll 26 = .ok (.iload_n 3, 1) := by decide +kernel
theorem dX12_canAll_27 : decode cX12_canAll 27 = .ok (.imul, 1) := by decide +kernel
theorem dX12_canAll_28 : decode cX12_canAll 28 = .ok (.iadd, 1) := by decide +kernel
theorem dX12_canAll_29 : decode cX12_canAll 29 = .ok (.istore 8, 2) := by decide +kernel
theorem dX12_canAll_31 : decode cX12_canAll 31 = .ok (.iload 7, 2) := by decide +kernel
theorem dX12_canAll_33 : decode cX12_canAll 33 = .ok (.iload 8, 2) := by decide +kernel
theorem dX12_canAll_35 : decode cX12_canAll 35 = .ok (.invokestatic 7, 3) := by decide +kernel
theorem dX12_canAll_38 : decode cX12_canAll 38 = .ok (.ifCond .eq 21, 3) := by decide +kernel
theorem dX12_canAll_41 : decode cX12_canAll 41 = .ok (.iload 7, 2) := by decide +kernel
theorem dX12_canAll_43 : decode cX12_canAll 43 = .ok (.aload_n 0, 1) := by decide +kernel
theorem dX12_canAll_44 : decode cX12_canAll 44 = .ok (.getfield 15, 3) := by decide +kernel
theorem dX12_canAll_47 : decode cX12_canAll 47 = .ok (.if_icmp .ne 14, 3) := by decide +kernel
theorem dX12_canAll_50 : decode cX12_canAll 50 = .ok (.iload 8, 2) := by decide +kernel
theorem dX12_canAll_52 : decode cX12_canAll 52 = .ok (.aload_n 0, 1) := by decide +kernel
theorem dX12_canAll_53 : decode cX12_canAll 53 = .ok (.getfield 19, 3) := by decide +kernel
theorem dX12_canAll_56 : decode cX12_canAll 56 = .ok (.if_icmp .ne 5, 3) := by decide +kernel
theorem dX12_canAll_59 : decode cX12_canAll 59 = .ok (.iconst 0, 1) := by decide +kernel
theorem dX12_canAll_60 : decode cX12_canAll 60 = .ok (.ireturn, 1) := by decide +kernel
theorem dX12_canAll_61 : decode cX12_canAll 61 = .ok (.iinc 6 1, 3) := by decide +kernel
theorem dX12_canAll_64 : decode cX12_canAll 64 = .ok (.goto (-61), 3) := by decide +kernel
theorem dX12_canAll_67 : decode cX12_canAll 67 = .ok (.aload_n 0, 1) := by decide +kernel
theorem dX12_canAll_68 : decode cX12_canAll 68 = .ok (.getfield 46, 3) := by decide +kernel
theorem dX12_canAll_71 : decode cX12_canAll 71 = .ok (.iload 4, 2) := by decide +kernel
theorem dX12_canAll_73 : decode cX12_canAll 73 = .ok (.iconst 1, 1) := by decide +kernel
theorem dX12_canAll_74 : decode cX12_canAll 74 = .ok (.isub, 1) := by decide +kernel
theorem dX12_canAll_75 : decode cX12_canAll 75 = .ok (.iload 5, 2) := by decide +kernel
theorem dX12_canAll_77 : decode cX12_canAll 77 = .ok (.imul, 1) := by decide +kernel
theorem dX12_canAll_78 : decode cX12_canAll 78 = .ok (.iadd, 1) := by decide +kernel
theorem dX12_canAll_79 : decode cX12_canAll 79 = .ok (.bipush 60, 2) := by decide +kernel
theorem dX12_canAll_81 : decode cX12_canAll 81 = .ok (.if_icmp .gt 7, 3) := by decide +kernel
theorem dX12_canAll_84 : decode cX12_canAll 84 = .ok (.iconst 1, 1) := by decide +kernel
theorem dX12_canAll_85 : decode cX12_canAll 85 = .ok (.goto 4, 3) := by decide +kernel
theorem dX12_canAll_88 : decode cX12_canAll 88 = .ok (.iconst 0, 1) := by decide +kernel
theorem dX12_canAll_89 : decode cX12_canAll 89 = .ok (.ireturn, 1) := by decide +kernel
theorem dX12_grid_0 : decode cX12_grid 0 = .ok (.aload_n 0, 1) := by decide +kernel
theorem dX12_grid_1 : decode cX12_grid 1 = .ok (.iload_n 1, 1) := by decide +kernel
theorem dX12_grid_2 : decode cX12_grid 2 = .ok (.iconst 1, 1) := by decide +kernel
theorem dX12_grid_3 : decode cX12_grid 3 = .ok (.bipush 6, 2) := by decide +kernel
theorem dX12_grid_5 : decode cX12_grid 5 = .ok (.invokestatic 3, 3) := by decide +kernel
theorem dX12_grid_8 : decode cX12_grid 8 = .ok (.ifCond .eq 65, 3) := by decide +kernel
theorem dX12_grid_11 : decode cX12_grid 11 = .ok (.iload_n 2, 1) := by decide +kernel
theorem dX12_grid_12 : decode cX12_grid 12 = .ok (.bipush (-20), 2) := by decide +kernel
theorem dX12_grid_14 : decode cX12_grid 14 = .ok (.bipush 20, 2) := by decide +kernel
theorem dX12_grid_16 : decode cX12_grid 16 = .ok (.invokestatic 3, 3) := by decide +kernel
theorem dX12_grid_19 : decode cX12_grid 19 = .ok (.ifCond .eq 54, 3) := by decide +kernel
theorem dX12_grid_22 : decode cX12_grid 22 = .ok (.iload_n 3, 1) := by decide +kernel
theorem dX12_grid_23 : decode cX12_grid 23 = .ok (.bipush (-20), 2) := by decide +kernel
theorem dX12_grid_25 : decode cX12_grid 25 = .ok (.bipush 20, 2) := by decide +kernel
theorem dX12_grid_27 : decode cX12_grid 27 = .ok (.invokestatic 3, 3) := by decide +kernel
theorem dX12_grid_30 : decode cX12_grid 30 = .ok (.ifCond .eq 43, 3) := by decide +kernel
theorem dX12_grid_33 : decode cX12_grid 33 = .ok (.iload 4, 2) := by decide +kernel
theorem dX12_grid_35 : decode cX12_grid 35 = .ok (.iconst 1, 1) := by decide +kernel
theorem dX12_grid_36 : decode cX12_grid 36 = .ok (.bipush 6, 2) := by decide +kernel
theorem dX12_grid_38 : decode cX12_grid 38 = .ok (.invokestatic 3, 3) := by decide +kernel
theorem dX12_grid_41 : decode cX12_grid 41 = .ok (.ifCond .eq 32, 3) := by decide +kernel
theorem dX12_grid_44 : decode cX12_grid 44 = .ok (.iload 5, 2) := by decide +kernel
theorem dX12_grid_46 : decode cX12_grid 46 = .ok (.iconst 0, 1) := by decide +kernel
theorem dX12_grid_47 : decode cX12_grid 47 = .ok (.bipush 20, 2) := by decide +kernel
theorem dX12_grid_49 : decode cX12_grid 49 = .ok (.invokestatic 3, 3) := by decide +kernel
theorem dX12_grid_52 : decode cX12_grid 52 = .ok (.ifCond .eq 21, 3) := by decide +kernel
theorem dX12_grid_55 : decode cX12_grid 55 = .ok (.aload_n 0, 1) := by decide +kernel
theorem dX12_grid_56 : decode cX12_grid 56 = .ok (.iload_n 1, 1) := by decide +kernel
theorem dX12_grid_57 : decode cX12_grid 57 = .ok (.iload_n 2, 1) := by decide +kernel
theorem dX12_grid_58 : decode cX12_grid 58 = .ok (.iload_n 3, 1) := by decide +kernel
theorem dX12_grid_59 : decode cX12_grid 59 = .ok (.iload 4, 2) := by decide +kernel
theorem dX12_grid_61 : decode cX12_grid 61 = .ok (.iload 5, 2) := by decide +kernel
theorem dX12_grid_63 : decode cX12_grid 63 = .ok (.invokevirtual 500, 3) := by decide +kernel
theorem dX12_grid_66 : decode cX12_grid 66 = .ok (.ifCond .eq 7, 3) := by decide +kernel
theorem dX12_grid_69 : decode cX12_grid 69 = .ok (.iconst 1, 1) := by decide +kernel
theorem dX12_grid_70 : decode cX12_grid 70 = .ok (.goto 4, 3) := by decide +kernel
theorem dX12_grid_73 : decode cX12_grid 73 = .ok (.iconst 0, 1) := by decide +kernel
theorem dX12_grid_74 : decode cX12_grid 74 = .ok (.putfield 504, 3) := by decide +kernel
theorem dX12_grid_77 : decode cX12_grid 77 = .ok (.aload_n 0, 1) := by decide +kernel
theorem dX12_grid_78 : decode cX12_grid 78 = .ok (.getfield 504, 3) := by decide +kernel
theorem dX12_grid_81 : decode cX12_grid 81 = .ok (.ifCond .ne 5, 3) := by decide +kernel
theorem dX12_grid_84 : decode cX12_grid 84 = .ok (.iconst (-1), 1) := by decide +kernel
theorem dX12_grid_85 : decode cX12_grid 85 = .ok (.ireturn, 1) := by decide +kernel
theorem dX12_grid_86 : decode cX12_grid 86 = .ok (.aload_n 0, 1) := by decide +kernel
theorem dX12_grid_87 : decode cX12_grid 87 = .ok (.iload_n 1, 1) := by decide +kernel
theorem dX12_grid_88 : decode cX12_grid 88 = .ok (.putfield 508, 3) := by decide +kernel
theorem dX12_grid_91 : decode cX12_grid 91 = .ok (.aload_n 0, 1) := by decide +kernel
theorem dX12_grid_92 : decode cX12_grid 92 = .ok (.iload_n 2, 1) := by decide +kernel
theorem dX12_grid_93 : decode cX12_grid 93 = .ok (.putfield 511, 3) := by decide +kernel
theorem dX12_grid_96 : decode cX12_grid 96 = .ok (.aload_n 0, 1) := by decide +kernel
theorem dX12_grid_97 : decode cX12_grid 97 = .ok (.iload_n 3, 1) := by decide +kernel
theorem dX12_grid_98 : decode cX12_grid 98 = .ok (.putfield 514, 3) := by decide +kernel
theorem dX12_grid_101 : decode cX12_grid 101 = .ok (.aload_n 0, 1) := by decide +kernel
theorem dX12_grid_102 : decode cX12_grid 102 = .ok (.iload 4, 2) := by decide +kernel
theorem dX12_grid_104 : decode cX12_grid 104 = .ok (.putfield 517, 3) := by decide +kernel
theorem dX12_grid_107 : decode cX12_grid 107 = .ok (.aload_n 0, 1) := by decide +kernel
theorem dX12_grid_108 : decode cX12_grid 108 = .ok (.iload 5, 2) := by decide +kernel
theorem dX12_grid_110 : decode cX12_grid 110 = .ok (.putfield 520, 3) := by decide +kernel
theorem dX12_grid_113 : decode cX12_grid 113 = .ok (.iload_n 1, 1) := by decide +kernel
theorem dX12_grid_114 : decode cX12_grid 114 = .ok (.iload 4, 2) := by decide +kernel
theorem dX12_grid_116 : decode cX12_grid 116 = .ok (.imul, 1) := by decide +kernel
theorem dX12_grid_117 : decode cX12_grid 117 = .ok (.ireturn, 1) := by decide +kernel
theorem dX12_settings_0 : decode cX12_settings 0 = .ok (.aload_n 0, 1) := by decide +kernel
theorem dX12_settings_1 : decode cX12_settings 1 = .ok (.getfield 504, 3) := by decide +kernel
theorem dX12_settings_4 : decode cX12_settings 4 = .ok (.ifCond .eq 15, 3) := by decide +kernel
theorem dX12_settings_7 : decode cX12_settings 7 = .ok (.aload_n 0, 1) := by decide +kernel
theorem dX12_settings_8 : decode cX12_settings 8 = .ok (.getfield 508, 3) := by decide +kernel
theorem dX12_settings_11 : decode cX12_settings 11 = .ok (.aload_n 0, 1) := by decide +kernel
theorem dX12_settings_12 : decode cX12_settings 12 = .ok (.getfield 517, 3) := by decide +kernel
theorem dX12_settings_15 : decode cX12_settings 15 = .ok (.imul, 1) := by decide +kernel
theorem dX12_settings_16 : decode cX12_settings 16 = .ok (.goto 4, 3) := by decide +kernel
theorem dX12_settings_19 : decode cX12_settings 19 = .ok (.iconst 0, 1) := by decide +kernel
theorem dX12_settings_20 : decode cX12_settings 20 = .ok (.ireturn, 1) := by decide +kernel
theorem dX12_isSetting_0 : decode cX12_isSetting 0 = .ok (.iload_n 1, 1) := by decide +kernel
theorem dX12_isSetting_1 : decode cX12_isSetting 1 = .ok (.iconst 0, 1) := by decide +kernel
theorem dX12_isSetting_2 : decode cX12_isSetting 2 = .ok (.aload_n 0, 1) := by decide +kernel
theorem dX12_isSetting_3 : decode cX12_isSetting 3 = .ok (.invokevirtual 532, 3) := by decide +kernel
theorem dX12_isSetting_6 : decode cX12_isSetting 6 = .ok (.iconst 1, 1) := by decide +kernel
theorem dX12_isSetting_7 : decode cX12_isSetting 7 = .ok (.isub, 1) := by decide +kernel
theorem dX12_isSetting_8 : decode cX12_isSetting 8 = .ok (.invokestatic 3, 3) := by decide +kernel
theorem dX12_isSetting_11 : decode cX12_isSetting 11 = .ok (.ifCond .eq 34, 3) := by decide +kernel
theorem dX12_isSetting_14 : decode cX12_isSetting 14 = .ok (.aload_n 0, 1) := by decide +kernel
theorem dX12_isSetting_15 : decode cX12_isSetting 15 = .ok (.aload_n 0, 1) := by decide +kernel
theorem dX12_isSetting_16 : decode cX12_isSetting 16 = .ok (.getfield 508, 3) := by decide +kernel
theorem dX12_isSetting_19 : decode cX12_isSetting 19 = .ok (.aload_n 0, 1) := by decide +kernel
theorem dX12_isSetting_20 : decode cX12_isSetting 20 = .ok (.getfield 511, 3) := by decide +kernel
theorem dX12_isSetting_23 : decode cX12_isSetting 23 = .ok (.aload_n 0, 1) := by decide +kernel
theorem dX12_isSetting_24 : decode cX12_isSetting 24 = .ok (.getfield 514, 3) := by decide +kernel
theorem dX12_isSetting_27 : decode cX12_isSetting 27 = .ok (.aload_n 0, 1) := by decide +kernel
theorem dX12_isSetting_28 : decode cX12_isSetting 28 = .ok (.getfield 517, 3) := by decide +kernel
theorem dX12_isSetting_31 : decode cX12_isSetting 31 = .ok (.aload_n 0, 1) := by decide +kernel
theorem dX12_isSetting_32 : decode cX12_isSetting 32 = .ok (.getfield 520, 3) := by decide +kernel
theorem dX12_isSetting_35 : decode cX12_isSetting 35 = .ok (.invokevirtual 500, 3) := by decide +kernel
theorem dX12_isSetting_38 : decode cX12_isSetting 38 = .ok (.ifCond .eq 7, 3) := by decide +kernel
theorem dX12_isSetting_41 : decode cX12_isSetting 41 = .ok (.iconst 1, 1) := by decide +kernel
theorem dX12_isSetting_42 : decode cX12_isSetting 42 = .ok (.goto 4, 3) := by decide +kernel
theorem dX12_isSetting_45 : decode cX12_isSetting 45 = .ok (.iconst 0, 1) := by decide +kernel
theorem dX12_isSetting_46 : decode cX12_isSetting 46 = .ok (.ireturn, 1) := by decide +kernel
theorem dX12_tried_0 : decode cX12_tried 0 = .ok (.aload_n 0, 1) := by decide +kernel
theorem dX12_tried_1 : decode cX12_tried 1 = .ok (.iload_n 1, 1) := by decide +kernel
theorem dX12_tried_2 : decode cX12_tried 2 = .ok (.invokevirtual 544, 3) := by decide +kernel
theorem dX12_tried_5 : decode cX12_tried 5 = .ok (.ifCond .eq 11, 3) := by decide +kernel
theorem dX12_tried_8 : decode cX12_tried 8 = .ok (.aload_n 0, 1) := by decide +kernel
theorem dX12_tried_9 : decode cX12_tried 9 = .ok (.iload_n 1, 1) := by decide +kernel
theorem dX12_tried_10 : decode cX12_tried 10 = .ok (.invokevirtual 547, 3) := by decide +kernel
theorem dX12_tried_13 : decode cX12_tried 13 = .ok (.goto 4, 3) := by decide +kernel
theorem dX12_tried_16 : decode cX12_tried 16 = .ok (.iconst (-1), 1) := by decide +kernel
theorem dX12_tried_17 : decode cX12_tried 17 = .ok (.ireturn, 1) := by decide +kernel
theorem dX12_best_0 : decode cX12_best 0 = .ok (.aload_n 0, 1) := by decide +kernel
theorem dX12_best_1 : decode cX12_best 1 = .ok (.getfield 504, 3) := by decide +kernel
theorem dX12_best_4 : decode cX12_best 4 = .ok (.ifCond .eq 30, 3) := by decide +kernel
theorem dX12_best_7 : decode cX12_best 7 = .ok (.aload_n 0, 1) := by decide +kernel
theorem dX12_best_8 : decode cX12_best 8 = .ok (.aload_n 0, 1) := by decide +kernel
theorem dX12_best_9 : decode cX12_best 9 = .ok (.getfield 508, 3) := by decide +kernel
theorem dX12_best_12 : decode cX12_best 12 = .ok (.aload_n 0, 1) := by decide +kernel
theorem dX12_best_13 : decode cX12_best 13 = .ok (.getfield 511, 3) := by decide +kernel
theorem dX12_best_16 : decode cX12_best 16 = .ok (.aload_n 0, 1) := by decide +kernel
theorem dX12_best_17 : decode cX12_best 17 = .ok (.getfield 514, 3) := by decide +kernel
theorem dX12_best_20 : decode cX12_best 20 = .ok (.aload_n 0, 1) := by decide +kernel
theorem dX12_best_21 : decode cX12_best 21 = .ok (.getfield 517, 3) := by decide +kernel
theorem dX12_best_24 : decode cX12_best 24 = .ok (.aload_n 0, 1) := by decide +kernel
theorem dX12_best_25 : decode cX12_best 25 = .ok (.getfield 520, 3) := by decide +kernel
theorem dX12_best_28 : decode cX12_best 28 = .ok (.invokevirtual 500, 3) := by decide +kernel
theorem dX12_best_31 : decode cX12_best 31 = .ok (.ifCond .ne 5, 3) := by decide +kernel
theorem dX12_best_34 : decode cX12_best 34 = .ok (.iconst (-1), 1) := by decide +kernel
theorem dX12_best_35 : decode cX12_best 35 = .ok (.ireturn, 1) := by decide +kernel
theorem dX12_best_36 : decode cX12_best 36 = .ok (.iconst (-1), 1) := by decide +kernel
theorem dX12_best_37 : decode cX12_best 37 = .ok (.istore_n 1, 1) := by decide +kernel
theorem dX12_best_38 : decode cX12_best 38 = .ok (.iconst (-1), 1) := by decide +kernel
theorem dX12_best_39 : decode cX12_best 39 = .ok (.istore_n 2, 1) := by decide +kernel
theorem dX12_best_40 : decode cX12_best 40 = .ok (.iconst 0, 1) := by decide +kernel
theorem dX12_best_41 : decode cX12_best 41 = .ok (.istore_n 3, 1) := by decide +kernel
theorem dX12_best_42 : decode cX12_best 42 = .ok (.iload_n 3, 1) := by decide +kernel
theorem dX12_best_43 : decode cX12_best 43 = .ok (.aload_n 0, 1) := by decide +kernel
theorem dX12_best_44 : decode cX12_best 44 = .ok (.invokevirtual 532, 3) := by decide +kernel
theorem dX12_best_47 : decode cX12_best 47 = .ok (.if_icmp .ge 30, 3) := by decide +kernel
theorem dX12_best_50 : decode cX12_best 50 = .ok (.aload_n 0, 1) := by decide +kernel
theorem dX12_best_51 : decode cX12_best 51 = .ok (.iload_n 3, 1) := by decide +kernel
theorem dX12_best_52 : decode cX12_best 52 = .ok (.invokevirtual 547, 3) := by decide +kernel
theorem dX12_best_55 : decode cX12_best 55 = .ok (.istore 4, 2) := by decide +kernel
theorem dX12_best_57 : decode cX12_best 57 = .ok (.iload 4, 2) := by decide +kernel
theorem dX12_best_59 : decode cX12_best 59 = .ok (.iload_n 1, 1) := by decide +kernel
theorem dX12_best_60 : decode cX12_best 60 = .ok (.if_icmp .gt 6, 3) := by decide +kernel
theorem dX12_best_63 : decode cX12_best 63 = .ok (.goto 8, 3) := by decide +kernel
