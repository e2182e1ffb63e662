theorem dX11_board_41 : decode cX11_board 41 = .ok (.iload 4, 2) := by decide +kernel
theorem dX11_board_43 : decode cX11_board 43 = .ok (.putfield 106, 3) := by decide +kernel
theorem dX11_board_46 : decode cX11_board 46 = .ok (.iconst 1, 1) := by decide +kernel
theorem dX11_board_47 : decode cX11_board 47 = .ok (.ireturn, 1) := by decide +kernel
theorem dX11_heights_0 : decode cX11_heights 0 = .ok (.iload_n 1, 1) := by decide +kernel
theorem dX11_heights_1 : decode cX11_heights 1 = .ok (.bipush (-100), 2) := by decide +kernel
theorem dX11_heights_3 : decode cX11_heights 3 = .ok (.bipush 100, 2) := by decide +kernel
theorem dX11_heights_5 : decode cX11_heights 5 = .ok (.invokestatic 109, 3) := by decide +kernel
theorem dX11_heights_8 : decode cX11_heights 8 = .ok (.ifCond .eq 23, 3) := by decide +kernel
theorem dX11_heights_11 : decode cX11_heights 11 = .ok (.iload_n 2, 1) := by decide +kernel
theorem dX11_heights_12 : decode cX11_heights 12 = .ok (.iconst 0, 1) := by decide +kernel
theorem dX11_heights_13 : decode cX11_heights 13 = .ok (.bipush 50, 2) := by decide +kernel
theorem dX11_heights_15 : decode cX11_heights 15 = .ok (.invokestatic 109, 3) := by decide +kernel
theorem dX11_heights_18 : decode cX11_heights 18 = .ok (.ifCond .eq 13, 3) := by decide +kernel
theorem dX11_heights_21 : decode cX11_heights 21 = .ok (.iload_n 3, 1) := by decide +kernel
theorem dX11_heights_22 : decode cX11_heights 22 = .ok (.iconst 0, 1) := by decide +kernel
theorem dX11_heights_23 : decode cX11_heights 23 = .ok (.bipush 60, 2) := by decide +kernel
theorem dX11_heights_25 : decode cX11_heights 25 = .ok (.invokestatic 109, 3) := by decide +kernel
theorem dX11_heights_28 : decode cX11_heights 28 = .ok (.ifCond .ne 5, 3) := by decide +kernel
theorem dX11_heights_31 : decode cX11_heights 31 = .ok (.iconst 0, 1) := by decide +kernel
theorem dX11_heights_32 : decode cX11_heights 32 = .ok (.ireturn, 1) := by decide +kernel
theorem dX11_heights_33 : decode cX11_heights 33 = .ok (.aload_n 0, 1) := by decide +kernel
theorem dX11_heights_34 : decode cX11_heights 34 = .ok (.getfield 35, 3) := by decide +kernel
theorem dX11_heights_37 : decode cX11_heights 37 = .ok (.iload_n 1, 1) := by decide +kernel
theorem dX11_heights_38 : decode cX11_heights 38 = .ok (.putfield 113, 3) := by decide +kernel
theorem dX11_heights_41 : decode cX11_heights 41 = .ok (.aload_n 0, 1) := by decide +kernel
theorem dX11_heights_42 : decode cX11_heights 42 = .ok (.getfield 35, 3) := by decide +kernel
theorem dX11_heights_45 : decode cX11_heights 45 = .ok (.iload_n 2, 1) := by decide +kernel
theorem dX11_heights_46 : decode cX11_heights 46 = .ok (.putfield 116, 3) := by decide +kernel
theorem dX11_heights_49 : decode cX11_heights 49 = .ok (.aload_n 0, 1) := by decide +kernel
theorem dX11_heights_50 : decode cX11_heights 50 = .ok (.getfield 35, 3) := by decide +kernel
theorem dX11_heights_53 : decode cX11_heights 53 = .ok (.iload_n 3, 1) := by decide +kernel
theorem dX11_heights_54 : decode cX11_heights 54 = .ok (.putfield 119, 3) := by decide +kernel
theorem dX11_heights_57 : decode cX11_heights 57 = .ok (.iconst 1, 1) := by decide +kernel
theorem dX11_heights_58 : decode cX11_heights 58 = .ok (.ireturn, 1) := by decide +kernel
theorem dX11_seat_0 : decode cX11_seat 0 = .ok (.iload_n 1, 1) := by decide +kernel
theorem dX11_seat_1 : decode cX11_seat 1 = .ok (.iconst 0, 1) := by decide +kernel
theorem dX11_seat_2 : decode cX11_seat 2 = .ok (.bipush 7, 2) := by decide +kernel
theorem dX11_seat_4 : decode cX11_seat 4 = .ok (.invokestatic 109, 3) := by decide +kernel
theorem dX11_seat_7 : decode cX11_seat 7 = .ok (.ifCond .eq 11, 3) := by decide +kernel
theorem dX11_seat_10 : decode cX11_seat 10 = .ok (.iload_n 2, 1) := by decide +kernel
theorem dX11_seat_11 : decode cX11_seat 11 = .ok (.iload_n 3, 1) := by decide +kernel
theorem dX11_seat_12 : decode cX11_seat 12 = .ok (.invokestatic 122, 3) := by decide +kernel
theorem dX11_seat_15 : decode cX11_seat 15 = .ok (.ifCond .ne 5, 3) := by decide +kernel
theorem dX11_seat_18 : decode cX11_seat 18 = .ok (.iconst 0, 1) := by decide +kernel
theorem dX11_seat_19 : decode cX11_seat 19 = .ok (.ireturn, 1) := by decide +kernel
theorem dX11_seat_20 : decode cX11_seat 20 = .ok (.aload_n 0, 1) := by decide +kernel
theorem dX11_seat_21 : decode cX11_seat 21 = .ok (.getfield 35, 3) := by decide +kernel
theorem dX11_seat_24 : decode cX11_seat 24 = .ok (.getfield 126, 3) := by decide +kernel
theorem dX11_seat_27 : decode cX11_seat 27 = .ok (.iload_n 1, 1) := by decide +kernel
theorem dX11_seat_28 : decode cX11_seat 28 = .ok (.iconst 1, 1) := by decide +kernel
theorem dX11_seat_29 : decode cX11_seat 29 = .ok (.bastore, 1) := by decide +kernel
theorem dX11_seat_30 : decode cX11_seat 30 = .ok (.aload_n 0, 1) := by decide +kernel
theorem dX11_seat_31 : decode cX11_seat 31 = .ok (.getfield 35, 3) := by decide +kernel
theorem dX11_seat_34 : decode cX11_seat 34 = .ok (.getfield 130, 3) := by decide +kernel
theorem dX11_seat_37 : decode cX11_seat 37 = .ok (.iload_n 1, 1) := by decide +kernel
theorem dX11_seat_38 : decode cX11_seat 38 = .ok (.iload_n 2, 1) := by decide +kernel
theorem dX11_seat_39 : decode cX11_seat 39 = .ok (.iastore, 1) := by decide +kernel
theorem dX11_seat_40 : decode cX11_seat 40 = .ok (.aload_n 0, 1) := by decide +kernel
theorem dX11_seat_41 : decode cX11_seat 41 = .ok (.getfield 35, 3) := by decide +kernel
theorem dX11_seat_44 : decode cX11_seat 44 = .ok (.getfield 134, 3) := by decide +kernel
theorem dX11_seat_47 : decode cX11_seat 47 = .ok (.iload_n 1, 1) := by decide +kernel
theorem dX11_seat_48 : decode cX11_seat 48 = .ok (.iload_n 3, 1) := by decide +kernel
theorem dX11_seat_49 : decode cX11_seat 49 = .ok (.iastore, 1) := by decide +kernel
theorem dX11_seat_50 : decode cX11_seat 50 = .ok (.iconst 1, 1) := by decide +kernel
theorem dX11_seat_51 : decode cX11_seat 51 = .ok (.ireturn, 1) := by decide +kernel
theorem dX11_wall_0 : decode cX11_wall 0 = .ok (.iload_n 1, 1) := by decide +kernel
theorem dX11_wall_1 : decode cX11_wall 1 = .ok (.iconst 0, 1) := by decide +kernel
theorem dX11_wall_2 : decode cX11_wall 2 = .ok (.bipush 11, 2) := by decide +kernel
theorem dX11_wall_4 : decode cX11_wall 4 = .ok (.invokestatic 109, 3) := by decide +kernel
theorem dX11_wall_7 : decode cX11_wall 7 = .ok (.ifCond .eq 15, 3) := by decide +kernel
theorem dX11_wall_10 : decode cX11_wall 10 = .ok (.iload_n 2, 1) := by decide +kernel
theorem dX11_wall_11 : decode cX11_wall 11 = .ok (.iload_n 3, 1) := by decide +kernel
theorem dX11_wall_12 : decode cX11_wall 12 = .ok (.iload 4, 2) := by decide +kernel
theorem dX11_wall_14 : decode cX11_wall 14 = .ok (.iload 5, 2) := by decide +kernel
theorem dX11_wall_16 : decode cX11_wall 16 = .ok (.invokestatic 81, 3) := by decide +kernel
theorem dX11_wall_19 : decode cX11_wall 19 = .ok (.ifCond .ne 5, 3) := by decide +kernel
theorem dX11_wall_22 : decode cX11_wall 22 = .ok (.iconst 0, 1) := by decide +kernel
theorem dX11_wall_23 : decode cX11_wall 23 = .ok (.ireturn, 1) := by decide +kernel
theorem dX11_wall_24 : decode cX11_wall 24 = .ok (.aload_n 0, 1) := by decide +kernel
theorem dX11_wall_25 : decode cX11_wall 25 = .ok (.getfield 35, 3) := by decide +kernel
theorem dX11_wall_28 : decode cX11_wall 28 = .ok (.getfield 137, 3) := by decide +kernel
theorem dX11_wall_31 : decode cX11_wall 31 = .ok (.iload_n 1, 1) := by decide +kernel
theorem dX11_wall_32 : decode cX11_wall 32 = .ok (.iconst 1, 1) := by decide +kernel
theorem dX11_wall_33 : decode cX11_wall 33 = .ok (.bastore, 1) := by decide +kernel
theorem dX11_wall_34 : decode cX11_wall 34 = .ok (.aload_n 0, 1) := by decide +kernel
theorem dX11_wall_35 : decode cX11_wall 35 = .ok (.getfield 35, 3) := by decide +kernel
theorem dX11_wall_38 : decode cX11_wall 38 = .ok (.getfield 140, 3) := by decide +kernel
theorem dX11_wall_41 : decode cX11_wall 41 = .ok (.iload_n 1, 1) := by decide +kernel
theorem dX11_wall_42 : decode cX11_wall 42 = .ok (.aaload, 1) := by decide +kernel
theorem dX11_wall_43 : decode cX11_wall 43 = .ok (.iconst 0, 1) := by decide +kernel
theorem dX11_wall_44 : decode cX11_wall 44 = .ok (.iload_n 2, 1) := by decide +kernel
theorem dX11_wall_45 : decode cX11_wall 45 = .ok (.iastore, 1) := by decide +kernel
theorem dX11_wall_46 : decode cX11_wall 46 = .ok (.aload_n 0, 1) := by decide +kernel
theorem dX11_wall_47 : decode cX11_wall 47 = .ok (.getfield 35, 3) := by decide +kernel
theorem dX11_wall_50 : decode cX11_wall 50 = .ok (.getfield 140, 3) := by decide +kernel
theorem dX11_wall_53 : decode cX11_wall 53 = .ok (.iload_n 1, 1) := by decide +kernel
theorem dX11_wall_54 : decode cX11_wall 54 = .ok (.aaload, 1) := by decide +kernel
theorem dX11_wall_55 : decode cX11_wall 55 = .ok (.iconst 1, 1) := by decide +kernel
theorem dX11_wall_56 : decode cX11_wall 56 = .ok (.iload_n 3, 1) := by decide +kernel
theorem dX11_wall_57 : decode cX11_wall 57 = .ok (.iastore, 1) := by decide +kernel
theorem dX11_wall_58 : decode cX11_wall 58 = .ok (.aload_n 0, 1) := by decide +kernel
theorem dX11_wall_59 : decode cX11_wall 59 = .ok (.getfield 35, 3) := by decide +kernel
theorem dX11_wall_62 : decode cX11_wall 62 = .ok (.getfield 140, 3) := by decide +kernel
theorem dX11_wall_65 : decode cX11_wall 65 = .ok (.iload_n 1, 1) := by decide +kernel
theorem dX11_wall_66 : decode cX11_wall 66 = .ok (.aaload, 1) := by decide +kernel
theorem dX11_wall_67 : decode cX11_wall 67 = .ok (.iconst 2, 1) := by decide +kernel
theorem dX11_wall_68 : decode cX11_wall 68 = .ok (.iload 4, 2) := by decide +kernel
theorem dX11_wall_70 : decode cX11_wall 70 = .ok (.iastore, 1) := by decide +kernel
theorem dX11_wall_71 : decode cX11_wall 71 = .ok (.aload_n 0, 1) := by decide +kernel
theorem dX11_wall_72 : decode cX11_wall 72 = .ok (.getfield 35, 3) := by decide +kernel
theorem dX11_wall_75 : decode cX11_wall 75 = .ok (.getfield 140, 3) := by decide +kernel
theorem dX11_wall_78 : decode cX11_wall 78 = .ok (.iload_n 1, 1) := by decide +kernel
theorem dX11_wall_79 : decode cX11_wall 79 = .ok (.aaload, 1) := by decide +kernel
theorem dX11_wall_80 : decode cX11_wall 80 = .ok (.iconst 3, 1) := by decide +kernel
theorem dX11_wall_81 : decode cX11_wall 81 = .ok (.iload 5, 2) := by decide +kernel
theorem dX11_wall_83 : decode cX11_wall 83 = .ok (.iastore, 1) := by decide +kernel
theorem dX11_wall_84 : decode cX11_wall 84 = .ok (.aload_n 0, 1) := by decide +kernel
theorem dX11_wall_85 : decode cX11_wall 85 = .ok (.getfield 35, 3) := by decide +kernel
theorem dX11_wall_88 : decode cX11_wall 88 = .ok (.getfield 144, 3) := by decide +kernel
theorem dX11_wall_91 : decode cX11_wall 91 = .ok (.iload_n 1, 1) := by decide +kernel
theorem dX11_wall_92 : decode cX11_wall 92 = .ok (.iload 6, 2) := by decide +kernel
theorem dX11_wall_94 : decode cX11_wall 94 = .ok (.bastore, 1) := by decide +kernel
theorem dX11_wall_95 : decode cX11_wall 95 = .ok (.iconst 1, 1) := by decide +kernel
theorem dX11_wall_96 : decode cX11_wall 96 = .ok (.ireturn, 1) := by decide +kernel
theorem dX11_thing_0 : decode cX11_thing 0 = .ok (.iload_n 1, 1) := by decide +kernel
theorem dX11_thing_1 : decode cX11_thing 1 = .ok (.iconst 0, 1) := by decide +kernel
theorem dX11_thing_2 : decode cX11_thing 2 = .ok (.bipush 7, 2) := by decide +kernel
theorem dX11_thing_4 : decode cX11_thing 4 = .ok (.invokestatic 109, 3) := by decide +kernel
theorem dX11_thing_7 : decode cX11_thing 7 = .ok (.ifCond .eq 21, 3) := by decide +kernel
theorem dX11_thing_10 : decode cX11_thing 10 = .ok (.iload_n 2, 1) := by decide +kernel
theorem dX11_thing_11 : decode cX11_thing 11 = .ok (.iload 4, 2) := by decide +kernel
theorem dX11_thing_13 : decode cX11_thing 13 = .ok (.invokestatic 122, 3) := by decide +kernel
theorem dX11_thing_16 : decode cX11_thing 16 = .ok (.ifCond .eq 12, 3) := by decide +kernel
theorem dX11_thing_19 : decode cX11_thing 19 = .ok (.iload_n 3, 1) := by decide +kernel
theorem dX11_thing_20 : decode cX11_thing 20 = .ok (.iload 5, 2) := by decide +kernel
theorem dX11_thing_22 : decode cX11_thing 22 = .ok (.invokestatic 122, 3) := by decide +kernel
theorem dX11_thing_25 : decode cX11_thing 25 = .ok (.ifCond .ne 5, 3) := by decide +kernel
theorem dX11_thing_28 : decode cX11_thing 28 = .ok (.iconst 0, 1) := by decide +kernel
theorem dX11_thing_29 : decode cX11_thing 29 = .ok (.ireturn, 1) := by decide +kernel
theorem dX11_thing_30 : decode cX11_thing 30 = .ok (.iload_n 2, 1) := by decide +kernel
theorem dX11_thing_31 : decode cX11_thing 31 = .ok (.iload_n 3, 1) := by decide +kernel
theorem dX11_thing_32 : decode cX11_thing 32 = .ok (.if_icmp .ge 10, 3) := by decide +kernel
theorem dX11_thing_35 : decode cX11_thing 35 = .ok (.iload 4, 2) := by decide +kernel
theorem dX11_thing_37 : decode cX11_thing 37 = .ok (.iload 5, 2) := by decide +kernel
theorem dX11_thing_39 : decode cX11_thing 39 = .ok (.if_icmp .lt 5, 3) := by decide +kernel
theorem dX11_thing_42 : decode cX11_thing 42 = .ok (.iconst 0, 1) := by decide +kernel
theorem dX11_thing_43 : decode cX11_thing 43 = .ok (.ireturn, 1) := by decide +kernel
theorem dX11_thing_44 : decode cX11_thing 44 = .ok (.aload_n 0, 1) := by decide +kernel
theorem dX11_thing_45 : decode cX11_thing 45 = .ok (.getfield 35, 3) := by decide +kernel
theorem dX11_thing_48 : decode cX11_thing 48 = .ok (.getfield 147, 3) := by decide +kernel
theorem dX11_thing_51 : decode cX11_thing 51 = .ok (.iload_n 1, 1) := by decide +kernel
theorem dX11_thing_52 : decode cX11_thing 52 = .ok (.iconst 1, 1) := by decide +kernel
theorem dX11_thing_53 : decode cX11_thing 53 = .ok (.bastore, 1) := by decide +kernel
theorem dX11_thing_54 : decode cX11_thing 54 = .ok (.aload_n 0, 1) := by decide +kernel
theorem dX11_thing_55 : decode cX11_thing 55 = .ok (.getfield 35, 3) := by decide +kernel
theorem dX11_thing_58 : decode cX11_thing 58 = .ok (.getfield 150, 3) := by decide +kernel
theorem dX11_thing_61 : decode cX11_thing 61 = .ok (.iload_n 1, 1) := by decide +kernel
theorem dX11_thing_62 : decode cX11_thing 62 = .ok (.aaload, 1) := by decide +kernel
theorem dX11_thing_63 : decode cX11_thing 63 = .ok (.iconst 0, 1) := by decide +kernel
theorem dX11_thing_64 : decode cX11_thing 64 = .ok (.iload_n 2, 1) := by decide +kernel
theorem dX11_thing_65 : decode cX11_thing 65 = .ok (.iastore, 1) := by decide +kernel
theorem dX11_thing_66 : decode cX11_thing 66 = .ok (.aload_n 0, 1) := by decide +kernel
theorem dX11_thing_67 : decode cX11_thing 67 = .ok (.getfield 35, 3) := by decide +kernel
theorem dX11_thing_70 : decode cX11_thing 70 = .ok (.getfield 150, 3) := by decide +kernel
theorem dX11_thing_73 : decode cX11_thing 73 = .ok (.iload_n 1, 1) := by decide +kernel
theorem dX11_thing_74 : decode cX11_thing 74 = .ok (.aaload, 1) := by decide +kernel
theorem dX11_thing_75 : decode cX11_thing 75 = .ok (.iconst 1, 1) := by decide +kernel
theorem dX11_thing_76 : decode cX11_thing 76 = .ok (.iload_n 3, 1) := by decide +kernel
theorem dX11_thing_77 : decode cX11_thing 77 = .ok (.iastore, 1) := by decide +kernel
theorem dX11_thing_78 : decode cX11_thing 78 = .ok (.aload_n 0, 1) := by decide +kernel
theorem dX11_thing_79 : decode cX11_thing 79 = .ok (.getfield 35, 3) := by decide +kernel
theorem dX11_thing_82 : decode cX11_thing 82 = .ok (.getfield 150, 3) := by decide +kernel
theorem dX11_thing_85 : decode cX11_thing 85 = .ok (.iload_n 1, 1) := by decide +kernel
theorem dX11_thing_86 : decode cX11_thing 86 = .ok (.aaload, 1) := by decide +kernel
theorem dX11_thing_87 : decode cX11_thing 87 = .ok (.iconst 2, 1) := by decide +kernel
theorem dX11_thing_88 : decode cX11_thing 88 = .ok (.iload 4, 2) := by decide +kernel
theorem dX11_thing_90 : decode cX11_thing 90 = .ok (.iastore, 1) := by decide +kernel
theorem dX11_thing_91 : decode cX11_thing 91 = .ok (.aload_n 0, 1) := by decide +kernel
theorem dX11_thing_92 : decode cX11_thing 92 = .ok (.getfield 35, 3) := by decide +kernel
theorem dX11_thing_95 : decode cX11_thing 95 = .ok (.getfield 150, 3) := by decide +kernel
theorem dX11_thing_98 : decode cX11_thing 98 = .ok (.iload_n 1, 1) := by decide +kernel
theorem dX11_thing_99 : decode cX11_thing 99 = .ok (.aaload, 1) := by decide +kernel
theorem dX11_thing_100 : decode cX11_thing 100 = .ok (.iconst 3, 1) := by decide +kernel
theorem dX11_thing_101 : decode cX11_thing 101 = .ok (.iload 5, 2) := by decide +kernel
theorem dX11_thing_103 : decode cX11_thing 103 = .ok (.iastore, 1) := by decide +kernel
theorem dX11_thing_104 : decode cX11_thing 104 = .ok (.iconst 1, 1) := by decide +kernel
theorem dX11_thing_105 : decode cX11_thing 105 = .ok (.ireturn, 1) := by decide +kernel
theorem dX11_gone_0 : decode cX11_gone 0 = .ok (.iload_n 1, 1) := by decide +kernel
theorem dX11_gone_1 : decode cX11_gone 1 = .ok (.tableswitch 63 0 2 #[27, 39, 51], 27) := by decide +kernel
theorem dX11_gone_28 : decode cX11_gone 28 = .ok (.aload_n 0, 1) := by decide +kernel
theorem dX11_gone_29 : decode cX11_gone 29 = .ok (.getfield 35, 3) := by decide +kernel
theorem dX11_gone_32 : decode cX11_gone 32 = .ok (.getfield 126, 3) := by decide +kernel
theorem dX11_gone_35 : decode cX11_gone 35 = .ok (.iload_n 2, 1) := by decide +kernel
theorem dX11_gone_36 : decode cX11_gone 36 = .ok (.invokestatic 153, 3) := by decide +kernel
theorem dX11_gone_39 : decode cX11_gone 39 = .ok (.ireturn, 1) := by decide +kernel
theorem dX11_gone_40 : decode cX11_gone 40 = .ok (.aload_n 0, 1) := by decide +kernel
theorem dX11_gone_41 : decode cX11_gone 41 = .ok (.getfield 35, 3) := by decide +kernel
theorem dX11_gone_44 : decode cX11_gone 44 = .ok (.getfield 137, 3) := by decide +kernel
theorem dX11_gone_47 : decode cX11_gone 47 = .ok (.iload_n 2, 1) := by decide +kernel
theorem dX11_gone_48 : decode cX11_gone 48 = .ok (.invokestatic 153, 3) := by decide +kernel
theorem dX11_gone_51 : decode cX11_gone 51 = .ok (.ireturn, 1) := by decide +kernel
theorem dX11_gone_52 : decode cX11_gone 52 = .ok (.aload_n 0, 1) := by decide +kernel
theorem dX11_gone_53 : decode cX11_gone 53 = .ok (.getfield 35, 3) := by decide +kernel
theorem dX11_gone_56 : decode cX11_gone 56 = .ok (.getfield 147, 3) := by decide +kernel
theorem dX11_gone_59 : decode cX11_gone 59 = .ok (.iload_n 2, 1) := by decide +kernel
theorem dX11_gone_60 : decode cX11_gone 60 = .ok (.invokestatic 153, 3) := by decide +kernel
theorem dX11_gone_63 : decode cX11_gone 63 = .ok (.ireturn, 1) := by decide +kernel
theorem dX11_gone_64 : decode cX11_gone 64 = .ok (.iconst 0, 1) := by decide +kernel
theorem dX11_gone_65 : decode cX11_gone 65 = .ok (.ireturn, 1) := by decide +kernel
theorem dX11_of_0 : decode cX11_of 0 = .ok (.iload_n 1, 1) := by decide +kernel
theorem dX11_of_1 : decode cX11_of 1 = .ok (.iload_n 2, 1) := by decide +kernel
theorem dX11_of_2 : decode cX11_of 2 = .ok (.invokestatic 157, 3) := by decide +kernel
theorem dX11_of_5 : decode cX11_of 5 = .ok (.ifCond .ne 7, 3) := by decide +kernel
theorem dX11_of_8 : decode cX11_of 8 = .ok (.ldc2_w 160, 3) := by decide +kernel
theorem dX11_of_11 : decode cX11_of 11 = .ok (.lreturn, 1) := by decide +kernel
theorem dX11_of_12 : decode cX11_of 12 = .ok (.aload_n 0, 1) := by decide +kernel
theorem dX11_of_13 : decode cX11_of 13 = .ok (.getfield 44, 3) := by decide +kernel
theorem dX11_of_16 : decode cX11_of 16 = .ok (.invokevirtual 162, 3) := by decide +kernel
theorem dX11_of_19 : decode cX11_of 19 = .ok (.iload_n 3, 1) := by decide +kernel
theorem dX11_of_20 : decode cX11_of 20 = .ok (.tableswitch 127 0 4 #[36, 63, 90, 101, 114], 36) := by decide +kernel
theorem dX11_of_56 : decode cX11_of 56 = .ok (.aload_n 0, 1) := by decide +kernel
theorem dX11_of_57 : decode cX11_of 57 = .ok (.getfield 44, 3) := by decide +kernel
theorem dX11_of_60 : decode cX11_of 60 = .ok (.getfield 165, 3) := by decide +kernel
theorem dX11_of_63 : decode cX11_of 63 = .ok (.ldc2_w 169, 3) := by decide +kernel
theorem dX11_of_66 : decode cX11_of 66 = .ok (.iload_n 1, 1) := by decide +kernel
theorem dX11_of_67 : decode cX11_of 67 = .ok (.i2l, 1) := by decide +kernel
theorem dX11_of_68 : decode cX11_of 68 = .ok (.lmul, 1) := by decide +kernel
theorem dX11_of_69 : decode cX11_of 69 = .ok (.ldc2_w 169, 3) := by decide +kernel
theorem dX11_of_72 : decode cX11_of 72 = .ok (.iload_n 2, 1) := by decide +kernel
theorem dX11_of_73 : decode cX11_of 73 = .ok (.i2l, 1) := by decide +kernel
theorem dX11_of_74 : decode cX11_of 74 = .ok (.lmul, 1) := by decide +kernel
theorem dX11_of_75 : decode cX11_of 75 = .ok (.invokevirtual 171, 3) := by decide +kernel
theorem dX11_of_78 : decode cX11_of 78 = .ok (.ldc2_w 169, 3) := by decide +kernel
theorem dX11_of_81 : decode cX11_of 81 = .ok (.ldiv, 1) := by decide +kernel
theorem dX11_of_82 : decode cX11_of 82 = .ok (.lreturn, 1) := by decide +kernel
theorem dX11_of_83 : decode cX11_of 83 = .ok (.aload_n 0, 1) := by decide +kernel
theorem dX11_of_84 : decode cX11_of 84 = .ok (.getfield 44, 3) := by decide +kernel
theorem dX11_of_87 : decode cX11_of 87 = .ok (.getfield 165, 3) := by decide +kernel
theorem dX11_of_90 : decode cX11_of 90 = .ok (.ldc2_w 169, 3) := by decide +kernel
theorem dX11_of_93 : decode cX11_of 93 = .ok (.iload_n 1, 1) := by decide +kernel
theorem dX11_of_94 : decode cX11_of 94 = .ok (.i2l, 1) := by decide +kernel
theorem dX11_of_95 : decode cX11_of 95 = .ok (.lmul, 1) := by decide +kernel
theorem dX11_of_96 : decode cX11_of 96 = .ok (.ldc2_w 169, 3) := by decide +kernel
theorem dX11_of_99 : decode cX11_of 99 = .ok (.iload_n 2, 1) := by decide +kernel
theorem dX11_of_100 : decode cX11_of 100 = .ok (.i2l, 1) := by decide +kernel
theorem dX11_of_101 : decode cX11_of 101 = .ok (.lmul, 1) := by decide +kernel
theorem dX11_of_102 : decode cX11_of 102 = .ok (.invokevirtual 177, 3) := by decide +kernel
theorem dX11_of_105 : decode cX11_of 105 = .ok (.ldc2_w 169, 3) := by decide +kernel
theorem dX11_of_108 : decode cX11_of 108 = .ok (.ldiv, 1) := by decide +kernel
theorem dX11_of_109 : decode cX11_of 109 = .ok (.lreturn, 1) := by decide +kernel
theorem dX11_of_110 : decode cX11_of 110 = .ok (.aload_n 0, 1) := by decide +kernel
theorem dX11_of_111 : decode cX11_of 111 = .ok (.getfield 44, 3) := by decide +kernel
theorem dX11_of_114 : decode cX11_of 114 = .ok (.getfield 165, 3) := by decide +kernel
theorem dX11_of_117 : decode cX11_of 117 = .ok (.getfield 180, 3) := by decide +kernel
theorem dX11_of_120 : decode cX11_of 120 = .ok (.lreturn, 1) := by decide +kernel
theorem dX11_of_121 : decode cX11_of 121 = .ok (.aload_n 0, 1) := by decide +kernel
theorem dX11_of_122 : decode cX11_of 122 = .ok (.getfield 44, 3) := by decide +kernel
theorem dX11_of_125 : decode cX11_of 125 = .ok (.getfield 165, 3) := by decide +kernel
theorem dX11_of_128 : decode cX11_of 128 = .ok (.iload_n 1, 1) := by decide +kernel
theorem dX11_of_129 : decode cX11_of 129 = .ok (.iload_n 2, 1) := by decide +kernel
theorem dX11_of_130 : decode cX11_of 130 = .ok (.invokevirtual 184, 3) := by decide +kernel
theorem dX11_of_133 : decode cX11_of 133 = .ok (.lreturn, 1) := by decide +kernel
theorem dX11_of_134 : decode cX11_of 134 = .ok (.aload_n 0, 1) := by decide +kernel
theorem dX11_of_135 : decode cX11_of 135 = .ok (.getfield 44, 3) := by decide +kernel
theorem dX11_of_138 : decode cX11_of 138 = .ok (.getfield 165, 3) := by decide +kernel
theorem dX11_of_141 : decode cX11_of 141 = .ok (.iload_n 1, 1) := by decide +kernel
theorem dX11_of_142 : decode cX11_of 142 = .ok (.iload_n 2, 1) := by decide +kernel
theorem dX11_of_143 : decode cX11_of 143 = .ok (.invokevirtual 188, 3) := by decide +kernel
theorem dX11_of_146 : decode cX11_of 146 = .ok (.lreturn, 1) := by decide +kernel
theorem dX11_of_147 : decode cX11_of 147 = .ok (.ldc2_w 160, 3) := by decide +kernel
theorem dX11_of_150 : decode cX11_of 150 = .ok (.lreturn, 1) := by decide +kernel
theorem dX11_sees_0 : decode cX11_sees 0 = .ok (.aload_n 0, 1) := by decide +kernel
theorem dX11_sees_1 : decode cX11_sees 1 = .ok (.getfield 35, 3) := by decide +kernel
theorem dX11_sees_4 : decode cX11_sees 4 = .ok (.iload_n 1, 1) := by decide +kernel
theorem dX11_sees_5 : decode cX11_sees 5 = .ok (.invokevirtual 191, 3) := by decide +kernel
theorem dX11_sees_8 : decode cX11_sees 8 = .ok (.ifCond .eq 11, 3) := by decide +kernel
theorem dX11_sees_11 : decode cX11_sees 11 = .ok (.iload_n 2, 1) := by decide +kernel
theorem dX11_sees_12 : decode cX11_sees 12 = .ok (.iload_n 3, 1) := by decide +kernel
theorem dX11_sees_13 : decode cX11_sees 13 = .ok (.invokestatic 157, 3) := by decide +kernel
theorem dX11_sees_16 : decode cX11_sees 16 = .ok (.ifCond .ne 5, 3) := by decide +kernel
theorem dX11_sees_19 : decode cX11_sees 19 = .ok (.iconst (-1), 1) := by decide +kernel
theorem dX11_sees_20 : decode cX11_sees 20 = .ok (.ireturn, 1) := by decide +kernel
theorem dX11_sees_21 : decode cX11_sees 21 = .ok (.aload_n 0, 1) := by decide +kernel
theorem dX11_sees_22 : decode cX11_sees 22 = .ok (.getfield 44, 3) := by decide +kernel
theorem dX11_sees_25 : decode cX11_sees 25 = .ok (.invokevirtual 162, 3) := by decide +kernel
theorem dX11_sees_28 : decode cX11_sees 28 = .ok (.aload_n 0, 1) := by decide +kernel
theorem dX11_sees_29 : decode cX11_sees 29 = .ok (.getfield 44, 3) := by decide +kernel
theorem dX11_sees_32 : decode cX11_sees 32 = .ok (.iload_n 1, 1) := by decide +kernel
theorem dX11_sees_33 : decode cX11_sees 33 = .ok (.ldc2_w 169, 3) := by decide +kernel
theorem dX11_sees_36 : decode cX11_sees 36 = .ok (.iload_n 2, 1) := by decide +kernel
theorem dX11_sees_37 : decode cX11_sees 37 = .ok (.i2l, 1) := by decide +kernel
theorem dX11_sees_38 : decode cX11_sees 38 = .ok (.lmul, 1) := by decide +kernel
theorem dX11_sees_39 : decode cX11_sees 39 = .ok (.ldc2_w 169, 3) := by decide +kernel
theorem dX11_sees_42 : decode cX11_sees 42 = .ok (.iload_n 3, 1) := by decide +kernel
theorem dX11_sees_43 : decode cX11_sees 43 = .ok (.i2l, 1) := by decide +kernel
theorem dX11_sees_44 : decode cX11_sees 44 = .ok (.lmul, 1) := by decide +kernel
theorem dX11_sees_45 : decode cX11_sees 45 = .ok (.invokevirtual 195, 3) := by decide +kernel
theorem dX11_sees_48 : decode cX11_sees 48 = .ok (.invokestatic 199, 3) := by decide +kernel
theorem dX11_sees_51 : decode cX11_sees 51 = .ok (.ireturn, 1) := by decide +kernel
theorem dX11_where_0 : decode cX11_where 0 = .ok (.aload_n 0, 1) := by decide +kernel
theorem dX11_where_1 : decode cX11_where 1 = .ok (.iload_n 1, 1) := by decide +kernel
theorem dX11_where_2 : decode cX11_where 2 = .ok (.iload_n 2, 1) := by decide +kernel
theorem dX11_where_3 : decode cX11_where 3 = .ok (.iload_n 3, 1) := by decide +kernel
theorem dX11_where_4 : decode cX11_where 4 = .ok (.invokevirtual 203, 3) := by decide +kernel
theorem dX11_where_7 : decode cX11_where 7 = .ok (.ifCond .ne 5, 3) := by decide +kernel
theorem dX11_where_10 : decode cX11_where 10 = .ok (.iconst (-1), 1) := by decide +kernel
theorem dX11_where_11 : decode cX11_where 11 = .ok (.ireturn, 1) := by decide +kernel
theorem dX11_where_12 : decode cX11_where 12 = .ok (.aload_n 0, 1) := by decide +kernel
theorem dX11_where_13 : decode cX11_where 13 = .ok (.getfield 44, 3) := by decide +kernel
theorem dX11_where_16 : decode cX11_where 16 = .ok (.getfield 165, 3) := by decide +kernel
theorem dX11_where_19 : decode cX11_where 19 = .ok (.invokevirtual 206, 3) := by decide +kernel
theorem dX11_where_22 : decode cX11_where 22 = .ok (.ireturn, 1) := by decide +kernel
theorem dX11_blocks_0 : decode cX11_blocks 0 = .ok (.iload 4, 2) := by decide +kernel
theorem dX11_blocks_2 : decode cX11_blocks 2 = .ok (.iconst 0, 1) := by decide +kernel
theorem dX11_blocks_3 : decode cX11_blocks 3 = .ok (.iconst 1, 1) := by decide +kernel
theorem dX11_blocks_4 : decode cX11_blocks 4 = .ok (.invokestatic 109, 3) := by decide +kernel
theorem dX11_blocks_7 : decode cX11_blocks 7 = .ok (.ifCond .eq 13, 3) := by decide +kernel
theorem dX11_blocks_10 : decode cX11_blocks 10 = .ok (.aload_n 0, 1) := by decide +kernel
theorem dX11_blocks_11 : decode cX11_blocks 11 = .ok (.iload_n 1, 1) := by decide +kernel
theorem dX11_blocks_12 : decode cX11_blocks 12 = .ok (.iload_n 2, 1) := by decide +kernel
theorem dX11_blocks_13 : decode cX11_blocks 13 = .ok (.iload_n 3, 1) := by decide +kernel
theorem dX11_blocks_14 : decode cX11_blocks 14 = .ok (.invokevirtual 203, 3) := by decide +kernel
theorem dX11_blocks_17 : decode cX11_blocks 17 = .ok (.ifCond .ne 5, 3) := by decide +kernel
theorem dX11_blocks_20 : decode cX11_blocks 20 = .ok (.iconst (-1), 1) := by decide +kernel
theorem dX11_blocks_21 : decode cX11_blocks 21 = .ok (.ireturn, 1) := by decide +kernel
theorem dX11_blocks_22 : decode cX11_blocks 22 = .ok (.iload 4, 2) := by decide +kernel
theorem dX11_blocks_24 : decode cX11_blocks 24 = .ok (.ifCond .ne 42, 3) := by decide +kernel
theorem dX11_blocks_27 : decode cX11_blocks 27 = .ok (.aload_n 0, 1) := by decide +kernel
theorem dX11_blocks_28 : decode cX11_blocks 28 = .ok (.getfield 44, 3) := by decide +kernel
theorem dX11_blocks_31 : decode cX11_blocks 31 = .ok (.getfield 165, 3) := by decide +kernel
theorem dX11_blocks_34 : decode cX11_blocks 34 = .ok (.ldc2_w 169, 3) := by decide +kernel
theorem dX11_blocks_37 : decode cX11_blocks 37 = .ok (.aload_n 0, 1) := by decide +kernel
theorem dX11_blocks_38 : decode cX11_blocks 38 = .ok (.getfield 35, 3) := by decide +kernel
theorem dX11_blocks_41 : decode cX11_blocks 41 = .ok (.getfield 130, 3) := by decide +kernel
theorem dX11_blocks_44 : decode cX11_blocks 44 = .ok (.iload_n 1, 1) := by decide +kernel
theorem dX11_blocks_45 : decode cX11_blocks 45 = .ok (.iaload, 1) := by decide +kernel
theorem dX11_blocks_46 : decode cX11_blocks 46 = .ok (.i2l, 1) := by decide +kernel
theorem dX11_blocks_47 : decode cX11_blocks 47 = .ok (.lmul, 1) := by decide +kernel
theorem dX11_blocks_48 : decode cX11_blocks 48 = .ok (.ldc2_w 169, 3) := by decide +kernel
theorem dX11_blocks_51 : decode cX11_blocks 51 = .ok (.aload_n 0, 1) := by decide +kernel
theorem dX11_blocks_52 : decode cX11_blocks 52 = .ok (.getfield 35, 3) := by decide +kernel
theorem dX11_blocks_55 : decode cX11_blocks 55 = .ok (.getfield 134, 3) := by decide +kernel
theorem dX11_blocks_58 : decode cX11_blocks 58 = .ok (.iload_n 1, 1) := by decide +kernel
theorem dX11_blocks_59 : decode cX11_blocks 59 = .ok (.iaload, 1) := by decide +kernel
theorem dX11_blocks_60 : decode cX11_blocks 60 = .ok (.i2l, 1) := by decide +kernel
theorem dX11_blocks_61 : decode cX11_blocks 61 = .ok (.lmul, 1) := by decide +kernel
theorem dX11_blocks_62 : decode cX11_blocks 62 = .ok (.invokevirtual 210, 3) := by decide +kernel
theorem dX11_blocks_65 : decode cX11_blocks 65 = .ok (.ireturn, 1) := by decide +kernel
theorem dX11_blocks_66 : decode cX11_blocks 66 = .ok (.aload_n 0, 1) := by decide +kernel
theorem dX11_blocks_67 : decode cX11_blocks 67 = .ok (.getfield 44, 3) := by decide +kernel
theorem dX11_blocks_70 : decode cX11_blocks 70 = .ok (.getfield 165, 3) := by decide +kernel
theorem dX11_blocks_73 : decode cX11_blocks 73 = .ok (.ldc2_w 169, 3) := by decide +kernel
theorem dX11_blocks_76 : decode cX11_blocks 76 = .ok (.iload_n 2, 1) := by decide +kernel
theorem dX11_blocks_77 : decode cX11_blocks 77 = .ok (.i2l, 1) := by decide +kernel
theorem dX11_blocks_78 : decode cX11_blocks 78 = .ok (.lmul, 1) := by decide +kernel
theorem dX11_blocks_79 : decode cX11_blocks 79 = .ok (.ldc2_w 169, 3) := by decide +kernel
theorem dX11_blocks_82 : decode cX11_blocks 82 = .ok (.iload_n 3, 1) := by decide +kernel
theorem dX11_blocks_83 : decode cX11_blocks 83 = .ok (.i2l, 1) := by decide +kernel
theorem dX11_blocks_84 : decode cX11_blocks 84 = .ok (.lmul, 1) := by decide +kernel
theorem dX11_blocks_85 : decode cX11_blocks 85 = .ok (.invokevirtual 210, 3) := by decide +kernel
theorem dX11_blocks_88 : decode cX11_blocks 88 = .ok (.ireturn, 1) := by decide +kernel
theorem dX11_shows_0 : decode cX11_shows 0 = .ok (.aload_n 0, 1) := by decide +kernel
theorem dX11_shows_1 : decode cX11_shows 1 = .ok (.getfield 35, 3) := by decide +kernel
theorem dX11_shows_4 : decode cX11_shows 4 = .ok (.iload_n 1, 1) := by decide +kernel
theorem dX11_shows_5 : decode cX11_shows 5 = .ok (.invokevirtual 214, 3) := by decide +kernel
theorem dX11_shows_8 : decode cX11_shows 8 = .ok (.ifCond .eq 14, 3) := by decide +kernel
theorem dX11_shows_11 : decode cX11_shows 11 = .ok (.aload_n 0, 1) := by decide +kernel
theorem dX11_shows_12 : decode cX11_shows 12 = .ok (.getfield 35, 3) := by decide +kernel
theorem dX11_shows_15 : decode cX11_shows 15 = .ok (.iload_n 2, 1) := by decide +kernel
theorem dX11_shows_16 : decode cX11_shows 16 = .ok (.invokevirtual 191, 3) := by decide +kernel
theorem dX11_shows_19 : decode cX11_shows 19 = .ok (.ifCond .ne 5, 3) := by decide +kernel
theorem dX11_shows_22 : decode cX11_shows 22 = .ok (.iconst (-1), 1) := by decide +kernel
theorem dX11_shows_23 : decode cX11_shows 23 = .ok (.ireturn, 1) := by decide +kernel
theorem dX11_shows_24 : decode cX11_shows 24 = .ok (.aload_n 0, 1) := by decide +kernel
theorem dX11_shows_25 : decode cX11_shows 25 = .ok (.getfield 44, 3) := by decide +kernel
theorem dX11_shows_28 : decode cX11_shows 28 = .ok (.invokevirtual 162, 3) := by decide +kernel
theorem dX11_shows_31 : decode cX11_shows 31 = .ok (.aload_n 0, 1) := by decide +kernel
theorem dX11_shows_32 : decode cX11_shows 32 = .ok (.getfield 44, 3) := by decide +kernel
theorem dX11_shows_35 : decode cX11_shows 35 = .ok (.iload_n 1, 1) := by decide +kernel
theorem dX11_shows_36 : decode cX11_shows 36 = .ok (.iload_n 2, 1) := by decide +kernel
theorem dX11_shows_37 : decode cX11_shows 37 = .ok (.invokevirtual 217, 3) := by decide +kernel
theorem dX11_shows_40 : decode cX11_shows 40 = .ok (.invokestatic 199, 3) := by decide +kernel
theorem dX11_shows_43 : decode cX11_shows 43 = .ok (.ireturn, 1) := by decide +kernel
theorem dX11_black_0 : decode cX11_black 0 = .ok (.aload_n 0, 1) := by decide +kernel
theorem dX11_black_1 : decode cX11_black 1 = .ok (.getfield 44, 3) := by decide +kernel
theorem dX11_black_4 : decode cX11_black 4 = .ok (.invokevirtual 162, 3) := by decide +kernel
theorem dX11_black_7 : decode cX11_black 7 = .ok (.iconst 0, 1) := by decide +kernel
theorem dX11_black_8 : decode cX11_black 8 = .ok (.istore_n 1, 1) := by decide +kernel
theorem dX11_black_9 : decode cX11_black 9 = .ok (.iconst 0, 1) := by decide +kernel
theorem dX11_black_10 : decode cX11_black 10 = .ok (.istore_n 2, 1) := by decide +kernel
theorem dX11_black_11 : decode cX11_black 11 = .ok (.iload_n 2, 1) := by decide +kernel
theorem dX11_black_12 : decode cX11_black 12 = .ok (.bipush 12, 2) := by decide +kernel
theorem dX11_black_14 : decode cX11_black 14 = .ok (.if_icmp .ge 38, 3) := by decide +kernel
theorem dX11_black_17 : decode cX11_black 17 = .ok (.aload_n 0, 1) := by decide +kernel
theorem dX11_black_18 : decode cX11_black 18 = .ok (.getfield 35, 3) := by decide +kernel
theorem dX11_black_21 : decode cX11_black 21 = .ok (.getfield 137, 3) := by decide +kernel
theorem dX11_black_24 : decode cX11_black 24 = .ok (.iload_n 2, 1) := by decide +kernel
theorem dX11_black_25 : decode cX11_black 25 = .ok (.baload, 1) := by decide +kernel
theorem dX11_black_26 : decode cX11_black 26 = .ok (.ifCond .eq 20, 3) := by decide +kernel
theorem dX11_black_29 : decode cX11_black 29 = .ok (.aload_n 0, 1) := by decide +kernel
theorem dX11_black_30 : decode cX11_black 30 = .ok (.getfield 44, 3) := by decide +kernel
theorem dX11_black_33 : decode cX11_black 33 = .ok (.iload_n 2, 1) := by decide +kernel
theorem dX11_black_34 : decode cX11_black 34 = .ok (.invokevirtual 220, 3) := by decide +kernel
theorem dX11_black_37 : decode cX11_black 37 = .ok (.ifCond .eq 9, 3) := by decide +kernel
theorem dX11_black_40 : decode cX11_black 40 = .ok (.iload_n 1, 1) := by decide +kernel
theorem dX11_black_41 : decode cX11_black 41 = .ok (.iconst 1, 1) := by decide +kernel
theorem dX11_black_42 : decode cX11_black 42 = .ok (.iload_n 2, 1) := by decide +kernel
theorem dX11_black_43 : decode cX11_black 43 = .ok (.ishl, 1) := by decide +kernel
theorem dX11_black_44 : decode cX11_black 44 = .ok (.ior, 1) := by decide +kernel
theorem dX11_black_45 : decode cX11_black 45 = .ok (.istore_n 1, 1) := by decide +kernel
theorem dX11_black_46 : decode cX11_black 46 = .ok (.iinc 2 1, 3) := by decide +kernel
theorem dX11_black_49 : decode cX11_black 49 = .ok (.goto (-38), 3) := by decide +kernel
theorem dX11_black_52 : decode cX11_black 52 = .ok (.iload_n 1, 1) := by decide +kernel
theorem dX11_black_53 : decode cX11_black 53 = .ok (.ireturn, 1) := by decide +kernel
theorem dX11_walk_0 : decode cX11_walk 0 = .ok (.aload_n 0, 1) := by decide +kernel
theorem dX11_walk_1 : decode cX11_walk 1 = .ok (.getfield 21, 3) := by decide +kernel
theorem dX11_walk_4 : decode cX11_walk 4 = .ok (.invokevirtual 223, 3) := by decide +kernel
theorem dX11_walk_7 : decode cX11_walk 7 = .ok (.aload_n 0, 1) := by decide +kernel
theorem dX11_walk_8 : decode cX11_walk 8 = .ok (.getfield 10, 3) := by decide +kernel
theorem dX11_walk_11 : decode cX11_walk 11 = .ok (.iconst 0, 1) := by decide +kernel
theorem dX11_walk_12 : decode cX11_walk 12 = .ok (.putfield 77, 3) := by decide +kernel
theorem dX11_walk_15 : decode cX11_walk 15 = .ok (.aload_n 0, 1) := by decide +kernel
theorem dX11_walk_16 : decode cX11_walk 16 = .ok (.getfield 10, 3) := by decide +kernel
theorem dX11_walk_19 : decode cX11_walk 19 = .ok (.getfield 226, 3) := by decide +kernel
theorem dX11_walk_22 : decode cX11_walk 22 = .ok (.ifCond .eq 5, 3) := by decide +kernel
theorem dX11_walk_25 : decode cX11_walk 25 = .ok (.iconst (-1), 1) := by decide +kernel
theorem dX11_walk_26 : decode cX11_walk 26 = .ok (.ireturn, 1) := by decide +kernel
theorem dX11_walk_27 : decode cX11_walk 27 = .ok (.aload_n 0, 1) := by decide +kernel
theorem dX11_walk_28 : decode cX11_walk 28 = .ok (.getfield 28, 3) := by decide +kernel
theorem dX11_walk_31 : decode cX11_walk 31 = .ok (.aload_n 0, 1) := by decide +kernel
theorem dX11_walk_32 : decode cX11_walk 32 = .ok (.getfield 21, 3) := by decide +kernel
theorem dX11_walk_35 : decode cX11_walk 35 = .ok (.getfield 229, 3) := by decide +kernel
theorem dX11_walk_38 : decode cX11_walk 38 = .ok (.invokevirtual 233, 3) := by decide +kernel
theorem dX11_walk_41 : decode cX11_walk 41 = .ok (.aload_n 0, 1) := by decide +kernel
theorem dX11_walk_42 : decode cX11_walk 42 = .ok (.getfield 28, 3) := by decide +kernel
theorem dX11_walk_45 : decode cX11_walk 45 = .ok (.getfield 237, 3) := by decide +kernel
theorem dX11_walk_48 : decode cX11_walk 48 = .ok (.ireturn, 1) := by decide +kernel
theorem dX11_fault_0 : decode cX11_fault 0 = .ok (.iload_n 1, 1) := by decide +kernel
theorem dX11_fault_1 : decode cX11_fault 1 = .ok (.ifCond .ne 11, 3) := by decide +kernel
theorem dX11_fault_4 : decode cX11_fault 4 = .ok (.aload_n 0, 1) := by decide +kernel
theorem dX11_fault_5 : decode cX11_fault 5 = .ok (.getfield 10, 3) := by decide +kernel
theorem dX11_fault_8 : decode cX11_fault 8 = .ok (.getfield 226, 3) := by decide +kernel
theorem dX11_fault_11 : decode cX11_fault 11 = .ok (.ireturn, 1) := by decide +kernel
theorem dX11_fault_12 : decode cX11_fault 12 = .ok (.iload_n 1, 1) := by decide +kernel
theorem dX11_fault_13 : decode cX11_fault 13 = .ok (.iconst 1, 1) := by decide +kernel
theorem dX11_fault_14 : decode cX11_fault 14 = .ok (.if_icmp .ne 13, 3) := by decide +kernel
theorem dX11_fault_17 : decode cX11_fault 17 = .ok (.aload_n 0, 1) := by decide +kernel
theorem dX11_fault_18 : decode cX11_fault 18 = .ok (.getfield 10, 3) := by decide +kernel
theorem dX11_fault_21 : decode cX11_fault 21 = .ok (.getfield 240, 3) := by decide +kernel
theorem dX11_fault_24 : decode cX11_fault 24 = .ok (.goto 4, 3) := by decide +kernel
theorem dX11_fault_27 : decode cX11_fault 27 = .ok (.iconst (-1), 1) := by decide +kernel
theorem dX11_fault_28 : decode cX11_fault 28 = .ok (.ireturn, 1) := by decide +kernel
theorem dX11_count_0 : decode cX11_count 0 = .ok (.aload_n 0, 1) := by decide +kernel
theorem dX11_count_1 : decode cX11_count 1 = .ok (.getfield 28, 3) := by decide +kernel
theorem dX11_count_4 : decode cX11_count 4 = .ok (.iload_n 1, 1) := by decide +kernel
theorem dX11_count_5 : decode cX11_count 5 = .ok (.invokevirtual 243, 3) := by decide +kernel
theorem dX11_count_8 : decode cX11_count 8 = .ok (.ifCond .ne 7, 3) := by decide +kernel
theorem dX11_count_11 : decode cX11_count 11 = .ok (.sipush (-1000), 3) := by decide +kernel
theorem dX11_count_14 : decode cX11_count 14 = .ok (.ireturn, 1) := by decide +kernel
theorem dX11_count_15 : decode cX11_count 15 = .ok (.aload_n 0, 1) := by decide +kernel
theorem dX11_count_16 : decode cX11_count 16 = .ok (.getfield 44, 3) := by decide +kernel
theorem dX11_count_19 : decode cX11_count 19 = .ok (.invokevirtual 162, 3) := by decide +kernel
theorem dX11_count_22 : decode cX11_count 22 = .ok (.aload_n 0, 1) := by decide +kernel
theorem dX11_count_23 : decode cX11_count 23 = .ok (.getfield 44, 3) := by decide +kernel
theorem dX11_count_26 : decode cX11_count 26 = .ok (.iload_n 1, 1) := by decide +kernel
theorem dX11_count_27 : decode cX11_count 27 = .ok (.invokevirtual 246, 3) := by decide +kernel
theorem dX11_count_30 : decode cX11_count 30 = .ok (.iload_n 2, 1) := by decide +kernel
theorem dX11_count_31 : decode cX11_count 31 = .ok (.tableswitch 109 0 6 #[41, 51, 61, 74, 82, 90, 101], 41) := by decide +kernel
theorem dX11_count_72 : decode cX11_count 72 = .ok (.aload_n 0, 1) := by decide +kernel
theorem dX11_count_73 : decode cX11_count 73 = .ok (.getfield 28, 3) := by decide +kernel
theorem dX11_count_76 : decode cX11_count 76 = .ok (.getfield 249, 3) := by decide +kernel
theorem dX11_count_79 : decode cX11_count 79 = .ok (.iload_n 1, 1) := by decide +kernel
theorem dX11_count_80 : decode cX11_count 80 = .ok (.iaload, 1) := by decide +kernel
theorem dX11_count_81 : decode cX11_count 81 = .ok (.ireturn, 1) := by decide +kernel
theorem dX11_count_82 : decode cX11_count 82 = .ok (.aload_n 0, 1) := by decide +kernel
theorem dX11_count_83 : decode cX11_count 83 = .ok (.getfield 28, 3) := by decide +kernel
theorem dX11_count_86 : decode cX11_count 86 = .ok (.getfield 252, 3) := by decide +kernel
theorem dX11_count_89 : decode cX11_count 89 = .ok (.iload_n 1, 1) := by decide +kernel
theorem dX11_count_90 : decode cX11_count 90 = .ok (.iaload, 1) := by decide +kernel
theorem dX11_count_91 : decode cX11_count 91 = .ok (.ireturn, 1) := by decide +kernel
theorem dX11_count_92 : decode cX11_count 92 = .ok (.aload_n 0, 1) := by decide +kernel
theorem dX11_count_93 : decode cX11_count 93 = .ok (.getfield 28, 3) := by decide +kernel
theorem dX11_count_96 : decode cX11_count 96 = .ok (.getfield 255, 3) := by decide +kernel
theorem dX11_count_99 : decode cX11_count 99 = .ok (.iload_n 1, 1) := by decide +kernel
theorem dX11_count_100 : decode cX11_count 100 = .ok (.baload, 1) := by decide +kernel
theorem dX11_count_101 : decode cX11_count 101 = .ok (.invokestatic 199, 3) := by decide +kernel
theorem dX11_count_104 : decode cX11_count 104 = .ok (.ireturn, 1) := by decide +kernel
theorem dX11_count_105 : decode cX11_count 105 = .ok (.aload_n 0, 1) := by decide +kernel
theorem dX11_count_106 : decode cX11_count 106 = .ok (.getfield 44, 3) := by decide +kernel
theorem dX11_count_109 : decode cX11_count 109 = .ok (.getfield 258, 3) := by decide +kernel
theorem dX11_count_112 : decode cX11_count 112 = .ok (.ireturn, 1) := by decide +kernel
theorem dX11_count_113 : decode cX11_count 113 = .ok (.aload_n 0, 1) := by decide +kernel
theorem dX11_count_114 : decode cX11_count 114 = .ok (.getfield 44, 3) := by decide +kernel
theorem dX11_count_117 : decode cX11_count 117 = .ok (.getfield 261, 3) := by decide +kernel
theorem dX11_count_120 : decode cX11_count 120 = .ok (.ireturn, 1) := by decide +kernel
theorem dX11_count_121 : decode cX11_count 121 = .ok (.aload_n 0, 1) := by decide +kernel
theorem dX11_count_122 : decode cX11_count 122 = .ok (.getfield 44, 3) := by decide +kernel
theorem dX11_count_125 : decode cX11_count 125 = .ok (.invokevirtual 264, 3) := by decide +kernel
theorem dX11_count_128 : decode cX11_count 128 = .ok (.invokestatic 199, 3) := by decide +kernel
theorem dX11_count_131 : decode cX11_count 131 = .ok (.ireturn, 1) := by decide +kernel
theorem dX11_count_132 : decode cX11_count 132 = .ok (.aload_n 0, 1) := by decide +kernel
theorem dX11_count_133 : decode cX11_count 133 = .ok (.getfield 44, 3) := by decide +kernel
theorem dX11_count_136 : decode cX11_count 136 = .ok (.invokevirtual 267, 3) := by decide +kernel
theorem dX11_count_139 : decode cX11_count 139 = .ok (.ireturn, 1) := by decide +kernel
theorem dX11_count_140 : decode cX11_count 140 = .ok (.sipush (-1000), 3) := by decide +kernel
theorem dX11_count_143 : decode cX11_count 143 = .ok (.ireturn, 1) := by decide +kernel
theorem dX11_has_0 : decode cX11_has 0 = .ok (.aload_n 0, 1) := by decide +kernel
theorem dX11_has_1 : decode cX11_has 1 = .ok (.getfield 35, 3) := by decide +kernel
theorem dX11_has_4 : decode cX11_has 4 = .ok (.iload_n 1, 1) := by decide +kernel
theorem dX11_has_5 : decode cX11_has 5 = .ok (.invokevirtual 191, 3) := by decide +kernel
theorem dX11_has_8 : decode cX11_has 8 = .ok (.ifCond .eq 14, 3) := by decide +kernel
theorem dX11_has_11 : decode cX11_has 11 = .ok (.aload_n 0, 1) := by decide +kernel
theorem dX11_has_12 : decode cX11_has 12 = .ok (.getfield 28, 3) := by decide +kernel
theorem dX11_has_15 : decode cX11_has 15 = .ok (.iload_n 2, 1) := by decide +kernel
theorem dX11_has_16 : decode cX11_has 16 = .ok (.invokevirtual 243, 3) := by decide +kernel
theorem dX11_has_19 : decode cX11_has 19 = .ok (.ifCond .ne 5, 3) := by decide +kernel
theorem dX11_has_22 : decode cX11_has 22 = .ok (.iconst (-1), 1) := by decide +kernel
theorem dX11_has_23 : decode cX11_has 23 = .ok (.ireturn, 1) := by decide +kernel
theorem dX11_has_24 : decode cX11_has 24 = .ok (.aload_n 0, 1) := by decide +kernel
theorem dX11_has_25 : decode cX11_has 25 = .ok (.getfield 44, 3) := by decide +kernel
theorem dX11_has_28 : decode cX11_has 28 = .ok (.invokevirtual 162, 3) := by decide +kernel
theorem dX11_has_31 : decode cX11_has 31 = .ok (.aload_n 0, 1) := by decide +kernel
theorem dX11_has_32 : decode cX11_has 32 = .ok (.getfield 44, 3) := by decide +kernel
theorem dX11_has_35 : decode cX11_has 35 = .ok (.iload_n 2, 1) := by decide +kernel
theorem dX11_has_36 : decode cX11_has 36 = .ok (.invokevirtual 270, 3) := by decide +kernel
theorem dX11_has_39 : decode cX11_has 39 = .ok (.ifCond .eq 18, 3) := by decide +kernel
theorem dX11_has_42 : decode cX11_has 42 = .ok (.aload_n 0, 1) := by decide +kernel
theorem dX11_has_43 : decode cX11_has 43 = .ok (.getfield 44, 3) := by decide +kernel
theorem dX11_has_46 : decode cX11_has 46 = .ok (.iload_n 1, 1) := by decide +kernel
theorem dX11_has_47 : decode cX11_has 47 = .ok (.invokevirtual 273, 3) := by decide +kernel
theorem dX11_has_50 : decode cX11_has 50 = .ok (.ifCond .eq 7, 3) := by decide +kernel
theorem dX11_has_53 : decode cX11_has 53 = .ok (.iconst 1, 1) := by decide +kernel
theorem dX11_has_54 : decode cX11_has 54 = .ok (.goto 4, 3) := by decide +kernel
theorem dX11_has_57 : decode cX11_has 57 = .ok (.iconst 0, 1) := by decide +kernel
theorem dX11_has_58 : decode cX11_has 58 = .ok (.invokestatic 199, 3) := by decide +kernel
theorem dX11_has_61 : decode cX11_has 61 = .ok (.ireturn, 1) := by decide +kernel
theorem dX11_counts_0 : decode cX11_counts 0 = .ok (.aload_n 0, 1) := by decide +kernel
theorem dX11_counts_1 : decode cX11_counts 1 = .ok (.getfield 35, 3) := by decide +kernel
theorem dX11_counts_4 : decode cX11_counts 4 = .ok (.iload_n 1, 1) := by decide +kernel
theorem dX11_counts_5 : decode cX11_counts 5 = .ok (.invokevirtual 191, 3) := by decide +kernel
theorem dX11_counts_8 : decode cX11_counts 8 = .ok (.ifCond .ne 5, 3) := by decide +kernel
theorem dX11_counts_11 : decode cX11_counts 11 = .ok (.iconst (-1), 1) := by decide +kernel
theorem dX11_counts_12 : decode cX11_counts 12 = .ok (.ireturn, 1) := by decide +kernel
theorem dX11_counts_13 : decode cX11_counts 13 = .ok (.aload_n 0, 1) := by decide +kernel
theorem dX11_counts_14 : decode cX11_counts 14 = .ok (.getfield 44, 3) := by decide +kernel
theorem dX11_counts_17 : decode cX11_counts 17 = .ok (.invokevirtual 162, 3) := by decide +kernel
theorem dX11_counts_20 : decode cX11_counts 20 = .ok (.aload_n 0, 1) := by decide +kernel
theorem dX11_counts_21 : decode cX11_counts 21 = .ok (.getfield 44, 3) := by decide +kernel
theorem dX11_counts_24 : decode cX11_counts 24 = .ok (.iload_n 1, 1) := by decide +kernel
theorem dX11_counts_25 : decode cX11_counts 25 = .ok (.invokevirtual 276, 3) := by decide +kernel
theorem dX11_counts_28 : decode cX11_counts 28 = .ok (.ireturn, 1) := by decide +kernel
theorem dX11_house_0 : decode cX11_house 0 = .ok (.aload_n 0, 1) := by decide +kernel
theorem dX11_house_1 : decode cX11_house 1 = .ok (.getfield 44, 3) := by decide +kernel
theorem dX11_house_4 : decode cX11_house 4 = .ok (.invokevirtual 162, 3) := by decide +kernel
theorem dX11_house_7 : decode cX11_house 7 = .ok (.aload_n 0, 1) := by decide +kernel
theorem dX11_house_8 : decode cX11_house 8 = .ok (.getfield 44, 3) := by decide +kernel
theorem dX11_house_11 : decode cX11_house 11 = .ok (.invokevirtual 280, 3) := by decide +kernel
theorem dX11_house_14 : decode cX11_house 14 = .ok (.ireturn, 1) := by decide +kernel
theorem dX11_grid_0 : decode cX11_grid 0 = .ok (.aload_n 0, 1) := by decide +kernel
theorem dX11_grid_1 : decode cX11_grid 1 = .ok (.getfield 51, 3) := by decide +kernel
theorem dX11_grid_4 : decode cX11_grid 4 = .ok (.invokevirtual 283, 3) := by decide +kernel
theorem dX11_grid_7 : decode cX11_grid 7 = .ok (.iload_n 1, 1) := by decide +kernel
theorem dX11_grid_8 : decode cX11_grid 8 = .ok (.iconst 1, 1) := by decide +kernel
theorem dX11_grid_9 : decode cX11_grid 9 = .ok (.bipush 6, 2) := by decide +kernel
theorem dX11_grid_11 : decode cX11_grid 11 = .ok (.invokestatic 109, 3) := by decide +kernel
theorem dX11_grid_14 : decode cX11_grid 14 = .ok (.ifCond .eq 14, 3) := by decide +kernel
theorem dX11_grid_17 : decode cX11_grid 17 = .ok (.iload 4, 2) := by decide +kernel
theorem dX11_grid_19 : decode cX11_grid 19 = .ok (.iconst 1, 1) := by decide +kernel
theorem dX11_grid_20 : decode cX11_grid 20 = .ok (.bipush 6, 2) := by decide +kernel
theorem dX11_grid_22 : decode cX11_grid 22 = .ok (.invokestatic 109, 3) := by decide +kernel
theorem dX11_grid_25 : decode cX11_grid 25 = .ok (.ifCond .ne 5, 3) := by decide +kernel
theorem dX11_grid_28 : decode cX11_grid 28 = .ok (.iconst (-1), 1) := by decide +kernel
theorem dX11_grid_29 : decode cX11_grid 29 = .ok (.ireturn, 1) := by decide +kernel
theorem dX11_grid_30 : decode cX11_grid 30 = .ok (.iload_n 2, 1) := by decide +kernel
theorem dX11_grid_31 : decode cX11_grid 31 = .ok (.bipush (-20), 2) := by decide +kernel
theorem dX11_grid_33 : decode cX11_grid 33 = .ok (.bipush 20, 2) := by decide +kernel
theorem dX11_grid_35 : decode cX11_grid 35 = .ok (.invokestatic 109, 3) := by decide +kernel
theorem dX11_grid_38 : decode cX11_grid 38 = .ok (.ifCond .eq 25, 3) := by decide +kernel
theorem dX11_grid_41 : decode cX11_grid 41 = .ok (.iload_n 3, 1) := by decide +kernel
theorem dX11_grid_42 : decode cX11_grid 42 = .ok (.bipush (-20), 2) := by decide +kernel
theorem dX11_grid_44 : decode cX11_grid 44 = .ok (.bipush 20, 2) := by decide +kernel
theorem dX11_grid_46 : decode cX11_grid 46 = .ok (.invokestatic 109, 3) := by decide +kernel
theorem dX11_grid_49 : decode cX11_grid 49 = .ok (.ifCond .eq 14, 3) := by decide +kernel
theorem dX11_grid_52 : decode cX11_grid 52 = .ok (.iload 5, 2) := by decide +kernel
theorem dX11_grid_54 : decode cX11_grid 54 = .ok (.iconst 0, 1) := by decide +kernel
theorem dX11_grid_55 : decode cX11_grid 55 = .ok (.bipush 20, 2) := by decide +kernel
theorem dX11_grid_57 : decode cX11_grid 57 = .ok (.invokestatic 109, 3) := by decide +kernel
theorem dX11_grid_60 : decode cX11_grid 60 = .ok (.ifCond .ne 5, 3) := by decide +kernel
theorem dX11_grid_63 : decode cX11_grid 63 = .ok (.iconst (-1), 1) := by decide +kernel
theorem dX11_grid_64 : decode cX11_grid 64 = .ok (.ireturn, 1) := by decide +kernel
theorem dX11_grid_65 : decode cX11_grid 65 = .ok (.aload_n 0, 1) := by decide +kernel
theorem dX11_grid_66 : decode cX11_grid 66 = .ok (.getfield 51, 3) := by decide +kernel
theorem dX11_grid_69 : decode cX11_grid 69 = .ok (.iload_n 1, 1) := by decide +kernel
theorem dX11_grid_70 : decode cX11_grid 70 = .ok (.iload_n 2, 1) := by decide +kernel
theorem dX11_grid_71 : decode cX11_grid 71 = .ok (.iload_n 3, 1) := by decide +kernel
theorem dX11_grid_72 : decode cX11_grid 72 = .ok (.iload 4, 2) := by decide +kernel
theorem dX11_grid_74 : decode cX11_grid 74 = .ok (.iload 5, 2) := by decide +kernel
theorem dX11_grid_76 : decode cX11_grid 76 = .ok (.invokevirtual 286, 3) := by decide +kernel
theorem dX11_grid_79 : decode cX11_grid 79 = .ok (.aload_n 0, 1) := by decide +kernel
theorem dX11_grid_80 : decode cX11_grid 80 = .ok (.getfield 51, 3) := by decide +kernel
theorem dX11_grid_83 : decode cX11_grid 83 = .ok (.aload_n 0, 1) := by decide +kernel
theorem dX11_grid_84 : decode cX11_grid 84 = .ok (.getfield 35, 3) := by decide +kernel
theorem dX11_grid_87 : decode cX11_grid 87 = .ok (.invokevirtual 290, 3) := by decide +kernel
theorem dX11_grid_90 : decode cX11_grid 90 = .ok (.ifCond .ne 12, 3) := by decide +kernel
theorem dX11_grid_93 : decode cX11_grid 93 = .ok (.aload_n 0, 1) := by decide +kernel
theorem dX11_grid_94 : decode cX11_grid 94 = .ok (.getfield 51, 3) := by decide +kernel
theorem dX11_grid_97 : decode cX11_grid 97 = .ok (.invokevirtual 283, 3) := by decide +kernel
theorem dX11_grid_100 : decode cX11_grid 100 = .ok (.iconst (-1), 1) := by decide +kernel
theorem dX11_grid_101 : decode cX11_grid 101 = .ok (.ireturn, 1) := by decide +kernel
theorem dX11_grid_102 : decode cX11_grid 102 = .ok (.aload_n 0, 1) := by decide +kernel
theorem dX11_grid_103 : decode cX11_grid 103 = .ok (.getfield 51, 3) := by decide +kernel
theorem dX11_grid_106 : decode cX11_grid 106 = .ok (.invokevirtual 294, 3) := by decide +kernel
theorem dX11_grid_109 : decode cX11_grid 109 = .ok (.ireturn, 1) := by decide +kernel
theorem dX11_tried_0 : decode cX11_tried 0 = .ok (.aload_n 0, 1) := by decide +kernel
theorem dX11_tried_1 : decode cX11_tried 1 = .ok (.iload_n 1, 1) := by decide +kernel
theorem dX11_tried_2 : decode cX11_tried 2 = .ok (.invokevirtual 297, 3) := by decide +kernel
theorem dX11_tried_5 : decode cX11_tried 5 = .ok (.ifCond .ne 5, 3) := by decide +kernel
theorem dX11_tried_8 : decode cX11_tried 8 = .ok (.iconst (-1), 1) := by decide +kernel
theorem dX11_tried_9 : decode cX11_tried 9 = .ok (.ireturn, 1) := by decide +kernel
theorem dX11_tried_10 : decode cX11_tried 10 = .ok (.aload_n 0, 1) := by decide +kernel
theorem dX11_tried_11 : decode cX11_tried 11 = .ok (.getfield 44, 3) := by decide +kernel
theorem dX11_tried_14 : decode cX11_tried 14 = .ok (.aload_n 0, 1) := by decide +kernel
theorem dX11_tried_15 : decode cX11_tried 15 = .ok (.getfield 51, 3) := by decide +kernel
theorem dX11_tried_18 : decode cX11_tried 18 = .ok (.iload_n 1, 1) := by decide +kernel
theorem dX11_tried_19 : decode cX11_tried 19 = .ok (.invokevirtual 300, 3) := by decide +kernel
theorem dX11_tried_22 : decode cX11_tried 22 = .ok (.aload_n 0, 1) := by decide +kernel
theorem dX11_tried_23 : decode cX11_tried 23 = .ok (.getfield 44, 3) := by decide +kernel
theorem dX11_tried_26 : decode cX11_tried 26 = .ok (.invokevirtual 280, 3) := by decide +kernel
theorem dX11_tried_29 : decode cX11_tried 29 = .ok (.ireturn, 1) := by decide +kernel
theorem dX11_best_0 : decode cX11_best 0 = .ok (.aload_n 0, 1) := by decide +kernel
theorem dX11_best_1 : decode cX11_best 1 = .ok (.getfield 51, 3) := by decide +kernel
theorem dX11_best_4 : decode cX11_best 4 = .ok (.aload_n 0, 1) := by decide +kernel
theorem dX11_best_5 : decode cX11_best 5 = .ok (.getfield 35, 3) := by decide +kernel
theorem dX11_best_8 : decode cX11_best 8 = .ok (.invokevirtual 290, 3) := by decide +kernel
theorem dX11_best_11 : decode cX11_best 11 = .ok (.ifCond .ne 5, 3) := by decide +kernel
theorem dX11_best_14 : decode cX11_best 14 = .ok (.iconst (-1), 1) := by decide +kernel
theorem dX11_best_15 : decode cX11_best 15 = .ok (.ireturn, 1) := by decide +kernel
theorem dX11_best_16 : decode cX11_best 16 = .ok (.iconst 0, 1) := by decide +kernel
theorem dX11_best_17 : decode cX11_best 17 = .ok (.istore_n 1, 1) := by decide +kernel
theorem dX11_best_18 : decode cX11_best 18 = .ok (.iconst (-1), 1) := by decide +kernel
theorem dX11_best_19 : decode cX11_best 19 = .ok (.istore_n 2, 1) := by decide +kernel
theorem dX11_best_20 : decode cX11_best 20 = .ok (.iconst 0, 1) := by decide +kernel
theorem dX11_best_21 : decode cX11_best 21 = .ok (.istore_n 3, 1) := by decide +kernel
theorem dX11_best_22 : decode cX11_best 22 = .ok (.iload_n 3, 1) := by decide +kernel
theorem dX11_best_23 : decode cX11_best 23 = .ok (.aload_n 0, 1) := by decide +kernel
theorem dX11_best_24 : decode cX11_best 24 = .ok (.getfield 51, 3) := by decide +kernel
theorem dX11_best_27 : decode cX11_best 27 = .ok (.invokevirtual 294, 3) := by decide +kernel
theorem dX11_best_30 : decode cX11_best 30 = .ok (.if_icmp .ge 41, 3) := by decide +kernel
theorem dX11_best_33 : decode cX11_best 33 = .ok (.aload_n 0, 1) := by decide +kernel
theorem dX11_best_34 : decode cX11_best 34 = .ok (.getfield 44, 3) := by decide +kernel
theorem dX11_best_37 : decode cX11_best 37 = .ok (.aload_n 0, 1) := by decide +kernel
theorem dX11_best_38 : decode cX11_best 38 = .ok (.getfield 51, 3) := by decide +kernel
theorem dX11_best_41 : decode cX11_best 41 = .ok (.iload_n 3, 1) := by decide +kernel
theorem dX11_best_42 : decode cX11_best 42 = .ok (.invokevirtual 300, 3) := by decide +kernel
theorem dX11_best_45 : decode cX11_best 45 = .ok (.aload_n 0, 1) := by decide +kernel
theorem dX11_best_46 : decode cX11_best 46 = .ok (.getfield 44, 3) := by decide +kernel
theorem dX11_best_49 : decode cX11_best 49 = .ok (.invokevirtual 280, 3) := by decide +kernel
theorem dX11_best_52 : decode cX11_best 52 = .ok (.istore 4, 2) := by decide +kernel
theorem dX11_best_54 : decode cX11_best 54 = .ok (.iload 4, 2) := by decide +kernel
theorem dX11_best_56 : decode cX11_best 56 = .ok (.iload_n 2, 1) := by decide +kernel
theorem dX11_best_57 : decode cX11_best 57 = .ok (.if_icmp .le 8, 3) := by decide +kernel
theorem dX11_best_60 : decode cX11_best 60 = .ok (.iload 4, 2) := by decide +kernel
theorem dX11_best_62 : decode cX11_best 62 = .ok (.istore_n 2, 1) := by decide +kernel
theorem dX11_best_63 : decode cX11_best 63 = .ok (.iload_n 3, 1) := by decide +kernel
theorem dX11_best_64 : decode cX11_best 64 = .ok (.istore_n 1, 1) := by decide +kernel
theorem dX11_best_65 : decode cX11_best 65 = .ok (.iinc 3 1, 3) := by decide +kernel
theorem dX11_best_68 : decode cX11_best 68 = .ok (.goto (-46), 3) := by decide +kernel
theorem dX11_best_71 : decode cX11_best 71 = .ok (.iload_n 1, 1) := by decide +kernel
theorem dX11_best_72 : decode cX11_best 72 = .ok (.ireturn, 1) := by decide +kernel
theorem dX11_take_0 : decode cX11_take 0 = .ok (.aload_n 0, 1) := by decide +kernel
theorem dX11_take_1 : decode cX11_take 1 = .ok (.iload_n 1, 1) := by decide +kernel
theorem dX11_take_2 : decode cX11_take 2 = .ok (.invokevirtual 297, 3) := by decide +kernel
theorem dX11_take_5 : decode cX11_take 5 = .ok (.ifCond .ne 5, 3) := by decide +kernel
theorem dX11_take_8 : decode cX11_take 8 = .ok (.iconst 0, 1) := by decide +kernel
theorem dX11_take_9 : decode cX11_take 9 = .ok (.ireturn, 1) := by decide +kernel
theorem dX11_take_10 : decode cX11_take 10 = .ok (.aload_n 0, 1) := by decide +kernel
theorem dX11_take_11 : decode cX11_take 11 = .ok (.getfield 51, 3) := by decide +kernel
theorem dX11_take_14 : decode cX11_take 14 = .ok (.aload_n 0, 1) := by decide +kernel
theorem dX11_take_15 : decode cX11_take 15 = .ok (.getfield 35, 3) := by decide +kernel
theorem dX11_take_18 : decode cX11_take 18 = .ok (.iload_n 1, 1) := by decide +kernel
theorem dX11_take_19 : decode cX11_take 19 = .ok (.invokevirtual 304, 3) := by decide +kernel
theorem dX11_take_22 : decode cX11_take 22 = .ok (.istore_n 2, 1) := by decide +kernel
theorem dX11_take_23 : decode cX11_take 23 = .ok (.aload_n 0, 1) := by decide +kernel
theorem dX11_take_24 : decode cX11_take 24 = .ok (.getfield 51, 3) := by decide +kernel
theorem dX11_take_27 : decode cX11_take 27 = .ok (.aload_n 0, 1) := by decide +kernel
theorem dX11_take_28 : decode cX11_take 28 = .ok (.getfield 35, 3) := by decide +kernel
theorem dX11_take_31 : decode cX11_take 31 = .ok (.iload_n 1, 1) := by decide +kernel
theorem dX11_take_32 : decode cX11_take 32 = .ok (.invokevirtual 308, 3) := by decide +kernel
theorem dX11_take_35 : decode cX11_take 35 = .ok (.istore_n 3, 1) := by decide +kernel
theorem dX11_take_36 : decode cX11_take 36 = .ok (.aload_n 0, 1) := by decide +kernel
theorem dX11_take_37 : decode cX11_take 37 = .ok (.getfield 35, 3) := by decide +kernel
theorem dX11_take_40 : decode cX11_take 40 = .ok (.aload_n 0, 1) := by decide +kernel
theorem dX11_take_41 : decode cX11_take 41 = .ok (.getfield 51, 3) := by decide +kernel
theorem dX11_take_44 : decode cX11_take 44 = .ok (.aload_n 0, 1) := by decide +kernel
theorem dX11_take_45 : decode cX11_take 45 = .ok (.getfield 35, 3) := by decide +kernel
theorem dX11_take_48 : decode cX11_take 48 = .ok (.iload_n 1, 1) := by decide +kernel
theorem dX11_take_49 : decode cX11_take 49 = .ok (.invokevirtual 311, 3) := by decide +kernel
theorem dX11_take_52 : decode cX11_take 52 = .ok (.putfield 119, 3) := by decide +kernel
theorem dX11_take_55 : decode cX11_take 55 = .ok (.aload_n 0, 1) := by decide +kernel
theorem dX11_take_56 : decode cX11_take 56 = .ok (.getfield 35, 3) := by decide +kernel
theorem dX11_take_59 : decode cX11_take 59 = .ok (.iload_n 2, 1) := by decide +kernel
theorem dX11_take_60 : decode cX11_take 60 = .ok (.putfield 91, 3) := by decide +kernel
theorem dX11_take_63 : decode cX11_take 63 = .ok (.aload_n 0, 1) := by decide +kernel
theorem dX11_take_64 : decode cX11_take 64 = .ok (.getfield 35, 3) := by decide +kernel
theorem dX11_take_67 : decode cX11_take 67 = .ok (.iload_n 3, 1) := by decide +kernel
theorem dX11_take_68 : decode cX11_take 68 = .ok (.putfield 94, 3) := by decide +kernel
theorem dX11_take_71 : decode cX11_take 71 = .ok (.aload_n 0, 1) := by decide +kernel
theorem dX11_take_72 : decode cX11_take 72 = .ok (.getfield 51, 3) := by decide +kernel
theorem dX11_take_75 : decode cX11_take 75 = .ok (.invokevirtual 283, 3) := by decide +kernel
theorem dX11_take_78 : decode cX11_take 78 = .ok (.iconst 1, 1) := by decide +kernel
theorem dX11_take_79 : decode cX11_take 79 = .ok (.ireturn, 1) := by decide +kernel
theorem dX11_joins_0 : decode cX11_joins 0 = .ok (.iload_n 1, 1) := by decide +kernel
theorem dX11_joins_1 : decode cX11_joins 1 = .ok (.iconst 1, 1) := by decide +kernel
theorem dX11_joins_2 : decode cX11_joins 2 = .ok (.sipush 1000, 3) := by decide +kernel
theorem dX11_joins_5 : decode cX11_joins 5 = .ok (.invokestatic 109, 3) := by decide +kernel
theorem dX11_joins_8 : decode cX11_joins 8 = .ok (.ifCond .eq 13, 3) := by decide +kernel
theorem dX11_joins_11 : decode cX11_joins 11 = .ok (.iload_n 2, 1) := by decide +kernel
theorem dX11_joins_12 : decode cX11_joins 12 = .ok (.iconst 0, 1) := by decide +kernel
theorem dX11_joins_13 : decode cX11_joins 13 = .ok (.bipush 100, 2) := by decide +kernel
theorem dX11_joins_15 : decode cX11_joins 15 = .ok (.invokestatic 109, 3) := by decide +kernel
theorem dX11_joins_18 : decode cX11_joins 18 = .ok (.ifCond .ne 5, 3) := by decide +kernel
theorem dX11_joins_21 : decode cX11_joins 21 = .ok (.iconst (-1), 1) := by decide +kernel
theorem dX11_joins_22 : decode cX11_joins 22 = .ok (.ireturn, 1) := by decide +kernel
theorem dX11_joins_23 : decode cX11_joins 23 = .ok (.aload_n 0, 1) := by decide +kernel
theorem dX11_joins_24 : decode cX11_joins 24 = .ok (.getfield 44, 3) := by decide +kernel
theorem dX11_joins_27 : decode cX11_joins 27 = .ok (.invokevirtual 162, 3) := by decide +kernel
theorem dX11_joins_30 : decode cX11_joins 30 = .ok (.aload_n 0, 1) := by decide +kernel
theorem dX11_joins_31 : decode cX11_joins 31 = .ok (.getfield 58, 3) := by decide +kernel
theorem dX11_joins_34 : decode cX11_joins 34 = .ok (.invokevirtual 314, 3) := by decide +kernel
theorem dX11_joins_37 : decode cX11_joins 37 = .ok (.aload_n 0, 1) := by decide +kernel
theorem dX11_joins_38 : decode cX11_joins 38 = .ok (.getfield 44, 3) := by decide +kernel
theorem dX11_joins_41 : decode cX11_joins 41 = .ok (.aload_n 0, 1) := by decide +kernel
theorem dX11_joins_42 : decode cX11_joins 42 = .ok (.getfield 58, 3) := by decide +kernel
theorem dX11_joins_45 : decode cX11_joins 45 = .ok (.invokevirtual 317, 3) := by decide +kernel
theorem dX11_joins_48 : decode cX11_joins 48 = .ok (.aload_n 0, 1) := by decide +kernel
theorem dX11_joins_49 : decode cX11_joins 49 = .ok (.getfield 58, 3) := by decide +kernel
theorem dX11_joins_52 : decode cX11_joins 52 = .ok (.iload_n 2, 1) := by decide +kernel
theorem dX11_joins_53 : decode cX11_joins 53 = .ok (.invokevirtual 321, 3) := by decide +kernel
theorem dX11_joins_56 : decode cX11_joins 56 = .ok (.aload_n 0, 1) := by decide +kernel
theorem dX11_joins_57 : decode cX11_joins 57 = .ok (.getfield 58, 3) := by decide +kernel
theorem dX11_joins_60 : decode cX11_joins 60 = .ok (.iload_n 1, 1) := by decide +kernel
theorem dX11_joins_61 : decode cX11_joins 61 = .ok (.invokevirtual 324, 3) := by decide +kernel
theorem dX11_joins_64 : decode cX11_joins 64 = .ok (.ifCond .eq 13, 3) := by decide +kernel
theorem dX11_joins_67 : decode cX11_joins 67 = .ok (.aload_n 0, 1) := by decide +kernel
theorem dX11_joins_68 : decode cX11_joins 68 = .ok (.getfield 58, 3) := by decide +kernel
theorem dX11_joins_71 : decode cX11_joins 71 = .ok (.getfield 327, 3) := by decide +kernel
theorem dX11_joins_74 : decode cX11_joins 74 = .ok (.goto 5, 3) := by decide +kernel
theorem dX11_joins_77 : decode cX11_joins 77 = .ok (.bipush (-2), 2) := by decide +kernel
theorem dX11_joins_79 : decode cX11_joins 79 = .ok (.ireturn, 1) := by decide +kernel
theorem dX11_join_0 : decode cX11_join 0 = .ok (.iload_n 1, 1) := by decide +kernel
theorem dX11_join_1 : decode cX11_join 1 = .ok (.ifCond .lt 14, 3) := by decide +kernel
theorem dX11_join_4 : decode cX11_join 4 = .ok (.iload_n 1, 1) := by decide +kernel
theorem dX11_join_5 : decode cX11_join 5 = .ok (.aload_n 0, 1) := by decide +kernel
theorem dX11_join_6 : decode cX11_join 6 = .ok (.getfield 58, 3) := by decide +kernel
theorem dX11_join_9 : decode cX11_join 9 = .ok (.getfield 327, 3) := by decide +kernel
theorem dX11_join_12 : decode cX11_join 12 = .ok (.if_icmp .lt 5, 3) := by decide +kernel
theorem dX11_join_15 : decode cX11_join 15 = .ok (.iconst (-1), 1) := by decide +kernel
theorem dX11_join_16 : decode cX11_join 16 = .ok (.ireturn, 1) := by decide +kernel
theorem dX11_join_17 : decode cX11_join 17 = .ok (.aload_n 0, 1) := by decide +kernel
theorem dX11_join_18 : decode cX11_join 18 = .ok (.getfield 58, 3) := by decide +kernel
theorem dX11_join_21 : decode cX11_join 21 = .ok (.getfield 330, 3) := by decide +kernel
theorem dX11_join_24 : decode cX11_join 24 = .ok (.iload_n 1, 1) := by decide +kernel
theorem dX11_join_25 : decode cX11_join 25 = .ok (.iaload, 1) := by decide +kernel
theorem dX11_join_26 : decode cX11_join 26 = .ok (.ireturn, 1) := by decide +kernel
theorem dX11_report_0 : decode cX11_report 0 = .ok (.iload_n 1, 1) := by decide +kernel
theorem dX11_report_1 : decode cX11_report 1 = .ok (.iconst 0, 1) := by decide +kernel
theorem dX11_report_2 : decode cX11_report 2 = .ok (.bipush 7, 2) := by decide +kernel
theorem dX11_report_4 : decode cX11_report 4 = .ok (.invokestatic 109, 3) := by decide +kernel
theorem dX11_report_7 : decode cX11_report 7 = .ok (.ifCond .eq 24, 3) := by decide +kernel
theorem dX11_report_10 : decode cX11_report 10 = .ok (.iload_n 2, 1) := by decide +kernel
theorem dX11_report_11 : decode cX11_report 11 = .ok (.iconst 0, 1) := by decide +kernel
theorem dX11_report_12 : decode cX11_report 12 = .ok (.sipush 240, 3) := by decide +kernel
theorem dX11_report_15 : decode cX11_report 15 = .ok (.invokestatic 109, 3) := by decide +kernel
theorem dX11_report_18 : decode cX11_report 18 = .ok (.ifCond .eq 13, 3) := by decide +kernel
theorem dX11_report_21 : decode cX11_report 21 = .ok (.aload_n 0, 1) := by decide +kernel
theorem dX11_report_22 : decode cX11_report 22 = .ok (.getfield 65, 3) := by decide +kernel
theorem dX11_report_25 : decode cX11_report 25 = .ok (.invokevirtual 333, 3) := by decide +kernel
theorem dX11_report_28 : decode cX11_report 28 = .ok (.ifCond .eq 5, 3) := by decide +kernel
theorem dX11_report_31 : decode cX11_report 31 = .ok (.iconst (-1), 1) := by decide +kernel
theorem dX11_report_32 : decode cX11_report 32 = .ok (.ireturn, 1) := by decide +kernel
theorem dX11_report_33 : decode cX11_report 33 = .ok (.aload_n 0, 1) := by decide +kernel
theorem dX11_report_34 : decode cX11_report 34 = .ok (.getfield 65, 3) := by decide +kernel
theorem dX11_report_37 : decode cX11_report 37 = .ok (.iload_n 1, 1) := by decide +kernel
theorem dX11_report_38 : decode cX11_report 38 = .ok (.iload_n 2, 1) := by decide +kernel
theorem dX11_report_39 : decode cX11_report 39 = .ok (.iload_n 3, 1) := by decide +kernel
theorem dX11_report_40 : decode cX11_report 40 = .ok (.invokevirtual 336, 3) := by decide +kernel
theorem dX11_report_43 : decode cX11_report 43 = .ok (.ireturn, 1) := by decide +kernel
theorem dX11_void__0 : decode cX11_void_ 0 = .ok (.aload_n 0, 1) := by decide +kernel
theorem dX11_void__1 : decode cX11_void_ 1 = .ok (.getfield 65, 3) := by decide +kernel
theorem dX11_void__4 : decode cX11_void_ 4 = .ok (.iload_n 1, 1) := by decide +kernel
theorem dX11_void__5 : decode cX11_void_ 5 = .ok (.invokevirtual 340, 3) := by decide +kernel
theorem dX11_void__8 : decode cX11_void_ 8 = .ok (.ifCond .ne 5, 3) := by decide +kernel
theorem dX11_void__11 : decode cX11_void_ 11 = .ok (.iconst (-1), 1) := by decide +kernel
theorem dX11_void__12 : decode cX11_void_ 12 = .ok (.ireturn, 1) := by decide +kernel
theorem dX11_void__13 : decode cX11_void_ 13 = .ok (.aload_n 0, 1) := by decide +kernel
theorem dX11_void__14 : decode cX11_void_ 14 = .ok (.getfield 65, 3) := by decide +kernel
theorem dX11_void__17 : decode cX11_void_ 17 = .ok (.iload_n 1, 1) := by decide +kernel
theorem dX11_void__18 : decode cX11_void_ 18 = .ok (.invokevirtual 343, 3) := by decide +kernel
theorem dX11_void__21 : decode cX11_void_ 21 = .ok (.ireturn, 1) := by decide +kernel
theorem dX11_quarrels_0 : decode cX11_quarrels 0 = .ok (.aload_n 0, 1) := by decide +kernel
theorem dX11_quarrels_1 : decode cX11_quarrels 1 = .ok (.getfield 65, 3) := by decide +kernel
theorem dX11_quarrels_4 : decode cX11_quarrels 4 = .ok (.iload_n 2, 1) := by decide +kernel
theorem dX11_quarrels_5 : decode cX11_quarrels 5 = .ok (.invokevirtual 346, 3) := by decide +kernel
theorem dX11_quarrels_8 : decode cX11_quarrels 8 = .ok (.istore_n 3, 1) := by decide +kernel
theorem dX11_quarrels_9 : decode cX11_quarrels 9 = .ok (.iload_n 3, 1) := by decide +kernel
theorem dX11_quarrels_10 : decode cX11_quarrels 10 = .ok (.ifCond .lt 11, 3) := by decide +kernel
theorem dX11_quarrels_13 : decode cX11_quarrels 13 = .ok (.aload_n 0, 1) := by decide +kernel
theorem dX11_quarrels_14 : decode cX11_quarrels 14 = .ok (.iload_n 1, 1) := by decide +kernel
theorem dX11_quarrels_15 : decode cX11_quarrels 15 = .ok (.invokevirtual 297, 3) := by decide +kernel
theorem dX11_quarrels_18 : decode cX11_quarrels 18 = .ok (.ifCond .ne 5, 3) := by decide +kernel
theorem dX11_quarrels_21 : decode cX11_quarrels 21 = .ok (.iconst (-1), 1) := by decide +kernel
theorem dX11_quarrels_22 : decode cX11_quarrels 22 = .ok (.ireturn, 1) := by decide +kernel
theorem dX11_quarrels_23 : decode cX11_quarrels 23 = .ok (.aload_n 0, 1) := by decide +kernel
theorem dX11_quarrels_24 : decode cX11_quarrels 24 = .ok (.getfield 44, 3) := by decide +kernel
theorem dX11_quarrels_27 : decode cX11_quarrels 27 = .ok (.aload_n 0, 1) := by decide +kernel
theorem dX11_quarrels_28 : decode cX11_quarrels 28 = .ok (.getfield 51, 3) := by decide +kernel
theorem dX11_quarrels_31 : decode cX11_quarrels 31 = .ok (.iload_n 1, 1) := by decide +kernel
theorem dX11_quarrels_32 : decode cX11_quarrels 32 = .ok (.invokevirtual 300, 3) := by decide +kernel
theorem dX11_quarrels_35 : decode cX11_quarrels 35 = .ok (.aload_n 0, 1) := by decide +kernel
theorem dX11_quarrels_36 : decode cX11_quarrels 36 = .ok (.getfield 65, 3) := by decide +kernel
theorem dX11_quarrels_39 : decode cX11_quarrels 39 = .ok (.aload_n 0, 1) := by decide +kernel
theorem dX11_quarrels_40 : decode cX11_quarrels 40 = .ok (.getfield 44, 3) := by decide +kernel
theorem dX11_quarrels_43 : decode cX11_quarrels 43 = .ok (.iload_n 3, 1) := by decide +kernel
theorem dX11_quarrels_44 : decode cX11_quarrels 44 = .ok (.invokevirtual 349, 3) := by decide +kernel
theorem dX11_quarrels_47 : decode cX11_quarrels 47 = .ok (.aload_n 0, 1) := by decide +kernel
theorem dX11_quarrels_48 : decode cX11_quarrels 48 = .ok (.getfield 65, 3) := by decide +kernel
theorem dX11_quarrels_51 : decode cX11_quarrels 51 = .ok (.getfield 353, 3) := by decide +kernel
theorem dX11_quarrels_54 : decode cX11_quarrels 54 = .ok (.iload_n 3, 1) := by decide +kernel
theorem dX11_quarrels_55 : decode cX11_quarrels 55 = .ok (.iaload, 1) := by decide +kernel
theorem dX11_quarrels_56 : decode cX11_quarrels 56 = .ok (.ireturn, 1) := by decide +kernel
theorem dX11_likely_0 : decode cX11_likely 0 = .ok (.aload_n 0, 1) := by decide +kernel
theorem dX11_likely_1 : decode cX11_likely 1 = .ok (.getfield 65, 3) := by decide +kernel
theorem dX11_likely_4 : decode cX11_likely 4 = .ok (.iload_n 1, 1) := by decide +kernel
theorem dX11_likely_5 : decode cX11_likely 5 = .ok (.invokevirtual 346, 3) := by decide +kernel
theorem dX11_likely_8 : decode cX11_likely 8 = .ok (.istore_n 2, 1) := by decide +kernel
theorem dX11_likely_9 : decode cX11_likely 9 = .ok (.iload_n 2, 1) := by decide +kernel
theorem dX11_likely_10 : decode cX11_likely 10 = .ok (.ifCond .lt 17, 3) := by decide +kernel
theorem dX11_likely_13 : decode cX11_likely 13 = .ok (.aload_n 0, 1) := by decide +kernel
theorem dX11_likely_14 : decode cX11_likely 14 = .ok (.getfield 51, 3) := by decide +kernel
theorem dX11_likely_17 : decode cX11_likely 17 = .ok (.aload_n 0, 1) := by decide +kernel
theorem dX11_likely_18 : decode cX11_likely 18 = .ok (.getfield 35, 3) := by decide +kernel
theorem dX11_likely_21 : decode cX11_likely 21 = .ok (.invokevirtual 290, 3) := by decide +kernel
theorem dX11_likely_24 : decode cX11_likely 24 = .ok (.ifCond .ne 5, 3) := by decide +kernel
theorem dX11_likely_27 : decode cX11_likely 27 = .ok (.iconst (-1), 1) := by decide +kernel
theorem dX11_likely_28 : decode cX11_likely 28 = .ok (.ireturn, 1) := by decide +kernel
theorem dX11_likely_29 : decode cX11_likely 29 = .ok (.iconst 0, 1) := by decide +kernel
theorem dX11_likely_30 : decode cX11_likely 30 = .ok (.istore_n 3, 1) := by decide +kernel
theorem dX11_likely_31 : decode cX11_likely 31 = .ok (.bipush 101, 2) := by decide +kernel
theorem dX11_likely_33 : decode cX11_likely 33 = .ok (.istore 4, 2) := by decide +kernel
theorem dX11_likely_35 : decode cX11_likely 35 = .ok (.iconst 0, 1) := by decide +kernel
theorem dX11_likely_36 : decode cX11_likely 36 = .ok (.istore 5, 2) := by decide +kernel
theorem dX11_likely_38 : decode cX11_likely 38 = .ok (.iload 5, 2) := by decide +kernel
theorem dX11_likely_40 : decode cX11_likely 40 = .ok (.aload_n 0, 1) := by decide +kernel
theorem dX11_likely_41 : decode cX11_likely 41 = .ok (.getfield 51, 3) := by decide +kernel
theorem dX11_likely_44 : decode cX11_likely 44 = .ok (.invokevirtual 294, 3) := by decide +kernel
theorem dX11_likely_47 : decode cX11_likely 47 = .ok (.if_icmp .ge 62, 3) := by decide +kernel
theorem dX11_likely_50 : decode cX11_likely 50 = .ok (.aload_n 0, 1) := by decide +kernel
theorem dX11_likely_51 : decode cX11_likely 51 = .ok (.getfield 44, 3) := by decide +kernel
theorem dX11_likely_54 : decode cX11_likely 54 = .ok (.aload_n 0, 1) := by decide +kernel
theorem dX11_likely_55 : decode cX11_likely 55 = .ok (.getfield 51, 3) := by decide +kernel
theorem dX11_likely_58 : decode cX11_likely 58 = .ok (.iload 5, 2) := by decide +kernel
theorem dX11_likely_60 : decode cX11_likely 60 = .ok (.invokevirtual 300, 3) := by decide +kernel
theorem dX11_likely_63 : decode cX11_likely 63 = .ok (.aload_n 0, 1) := by decide +kernel
theorem dX11_likely_64 : decode cX11_likely 64 = .ok (.getfield 65, 3) := by decide +kernel
theorem dX11_likely_67 : decode cX11_likely 67 = .ok (.aload_n 0, 1) := by decide +kernel
theorem dX11_likely_68 : decode cX11_likely 68 = .ok (.getfield 44, 3) := by decide +kernel
theorem dX11_likely_71 : decode cX11_likely 71 = .ok (.iload_n 2, 1) := by decide +kernel
theorem dX11_likely_72 : decode cX11_likely 72 = .ok (.invokevirtual 349, 3) := by decide +kernel
theorem dX11_likely_75 : decode cX11_likely 75 = .ok (.aload_n 0, 1) := by decide +kernel
theorem dX11_likely_76 : decode cX11_likely 76 = .ok (.getfield 65, 3) := by decide +kernel
theorem dX11_likely_79 : decode cX11_likely 79 = .ok (.getfield 353, 3) := by decide +kernel
theorem dX11_likely_82 : decode cX11_likely 82 = .ok (.iload_n 2, 1) := by decide +kernel
theorem dX11_likely_83 : decode cX11_likely 83 = .ok (.iaload, 1) := by decide +kernel
theorem dX11_likely_84 : decode cX11_likely 84 = .ok (.iload 4, 2) := by decide +kernel
theorem dX11_likely_86 : decode cX11_likely 86 = .ok (.if_icmp .ge 17, 3) := by decide +kernel
theorem dX11_likely_89 : decode cX11_likely 89 = .ok (.aload_n 0, 1) := by decide +kernel
theorem dX11_likely_90 : decode cX11_likely 90 = .ok (.getfield 65, 3) := by decide +kernel
theorem dX11_likely_93 : decode cX11_likely 93 = .ok (.getfield 353, 3) := by decide +kernel
theorem dX11_likely_96 : decode cX11_likely 96 = .ok (.iload_n 2, 1) := by decide +kernel
theorem dX11_likely_97 : decode cX11_likely 97 = .ok (.iaload, 1) := by decide +kernel
theorem dX11_likely_98 : decode cX11_likely 98 = .ok (.istore 4, 2) := by decide +kernel
theorem dX11_likely_100 : decode cX11_likely 100 = .ok (.iload 5, 2) := by decide +kernel
theorem dX11_likely_102 : decode cX11_likely 102 = .ok (.istore_n 3, 1) := by decide +kernel
theorem dX11_likely_103 : decode cX11_likely 103 = .ok (.iinc 5 1, 3) := by decide +kernel
theorem dX11_likely_106 : decode cX11_likely 106 = .ok (.goto (-68), 3) := by decide +kernel
theorem dX11_likely_109 : decode cX11_likely 109 = .ok (.iload_n 3, 1) := by decide +kernel
theorem dX11_likely_110 : decode cX11_likely 110 = .ok (.ireturn, 1) := by decide +kernel
theorem dX11_since_0 : decode cX11_since 0 = .ok (.aload_n 0, 1) := by decide +kernel
theorem dX11_since_1 : decode cX11_since 1 = .ok (.getfield 51, 3) := by decide +kernel
theorem dX11_since_4 : decode cX11_since 4 = .ok (.aload_n 0, 1) := by decide +kernel
theorem dX11_since_5 : decode cX11_since 5 = .ok (.getfield 35, 3) := by decide +kernel
theorem dX11_since_8 : decode cX11_since 8 = .ok (.invokevirtual 290, 3) := by decide +kernel
theorem dX11_since_11 : decode cX11_since 11 = .ok (.ifCond .ne 5, 3) := by decide +kernel
theorem dX11_since_14 : decode cX11_since 14 = .ok (.iconst (-1), 1) := by decide +kernel
theorem dX11_since_15 : decode cX11_since 15 = .ok (.ireturn, 1) := by decide +kernel
theorem dX11_since_16 : decode cX11_since 16 = .ok (.aload_n 0, 1) := by decide +kernel
theorem dX11_since_17 : decode cX11_since 17 = .ok (.getfield 65, 3) := by decide +kernel
theorem dX11_since_20 : decode cX11_since 20 = .ok (.invokevirtual 356, 3) := by decide +kernel
theorem dX11_since_23 : decode cX11_since 23 = .ok (.iconst 0, 1) := by decide +kernel
theorem dX11_since_24 : decode cX11_since 24 = .ok (.istore_n 1, 1) := by decide +kernel
theorem dX11_since_25 : decode cX11_since 25 = .ok (.iload_n 1, 1) := by decide +kernel
theorem dX11_since_26 : decode cX11_since 26 = .ok (.aload_n 0, 1) := by decide +kernel
theorem dX11_since_27 : decode cX11_since 27 = .ok (.getfield 51, 3) := by decide +kernel
theorem dX11_since_30 : decode cX11_since 30 = .ok (.invokevirtual 294, 3) := by decide +kernel
theorem dX11_since_33 : decode cX11_since 33 = .ok (.if_icmp .ge 47, 3) := by decide +kernel
theorem dX11_since_36 : decode cX11_since 36 = .ok (.aload_n 0, 1) := by decide +kernel
theorem dX11_since_37 : decode cX11_since 37 = .ok (.getfield 44, 3) := by decide +kernel
theorem dX11_since_40 : decode cX11_since 40 = .ok (.aload_n 0, 1) := by decide +kernel
theorem dX11_since_41 : decode cX11_since 41 = .ok (.getfield 51, 3) := by decide +kernel
theorem dX11_since_44 : decode cX11_since 44 = .ok (.iload_n 1, 1) := by decide +kernel
theorem dX11_since_45 : decode cX11_since 45 = .ok (.invokevirtual 300, 3) := by decide +kernel
theorem dX11_since_48 : decode cX11_since 48 = .ok (.aload_n 0, 1) := by decide +kernel
theorem dX11_since_49 : decode cX11_since 49 = .ok (.getfield 65, 3) := by decide +kernel
theorem dX11_since_52 : decode cX11_since 52 = .ok (.aload_n 0, 1) := by decide +kernel
theorem dX11_since_53 : decode cX11_since 53 = .ok (.getfield 44, 3) := by decide +kernel
theorem dX11_since_56 : decode cX11_since 56 = .ok (.aload_n 0, 1) := by decide +kernel
theorem dX11_since_57 : decode cX11_since 57 = .ok (.getfield 65, 3) := by decide +kernel
theorem dX11_since_60 : decode cX11_since 60 = .ok (.getfield 359, 3) := by decide +kernel
theorem dX11_since_63 : decode cX11_since 63 = .ok (.invokevirtual 349, 3) := by decide +kernel
theorem dX11_since_66 : decode cX11_since 66 = .ok (.aload_n 0, 1) := by decide +kernel
theorem dX11_since_67 : decode cX11_since 67 = .ok (.getfield 65, 3) := by decide +kernel
theorem dX11_since_70 : decode cX11_since 70 = .ok (.iload_n 1, 1) := by decide +kernel
theorem dX11_since_71 : decode cX11_since 71 = .ok (.invokevirtual 362, 3) := by decide +kernel
theorem dX11_since_74 : decode cX11_since 74 = .ok (.iinc 1 1, 3) := by decide +kernel
theorem dX11_since_77 : decode cX11_since 77 = .ok (.goto (-52), 3) := by decide +kernel
theorem dX11_since_80 : decode cX11_since 80 = .ok (.aload_n 0, 1) := by decide +kernel
theorem dX11_since_81 : decode cX11_since 81 = .ok (.getfield 65, 3) := by decide +kernel
theorem dX11_since_84 : decode cX11_since 84 = .ok (.invokevirtual 365, 3) := by decide +kernel
theorem dX11_since_87 : decode cX11_since 87 = .ok (.ireturn, 1) := by decide +kernel
theorem dX11_all_0 : decode cX11_all 0 = .ok (.iload_n 1, 1) := by decide +kernel
theorem dX11_all_1 : decode cX11_all 1 = .ok (.tableswitch 96 0 5 #[39, 50, 61, 72, 80, 88], 39) := by decide +kernel
theorem dX11_all_40 : decode cX11_all 40 = .ok (.aload_n 0, 1) := by decide +kernel
theorem dX11_all_41 : decode cX11_all 41 = .ok (.getfield 35, 3) := by decide +kernel
theorem dX11_all_44 : decode cX11_all 44 = .ok (.getfield 126, 3) := by decide +kernel
theorem dX11_all_47 : decode cX11_all 47 = .ok (.invokestatic 368, 3) := by decide +kernel
theorem dX11_all_50 : decode cX11_all 50 = .ok (.ireturn, 1) := by decide +kernel
theorem dX11_all_51 : decode cX11_all 51 = .ok (.aload_n 0, 1) := by decide +kernel
theorem dX11_all_52 : decode cX11_all 52 = .ok (.getfield 35, 3) := by decide +kernel
theorem dX11_all_55 : decode cX11_all 55 = .ok (.getfield 137, 3) := by decide +kernel
theorem dX11_all_58 : decode cX11_all 58 = .ok (.invokestatic 368, 3) := by decide +kernel
theorem dX11_all_61 : decode cX11_all 61 = .ok (.ireturn, 1) := by decide +kernel
theorem dX11_all_62 : decode cX11_all 62 = .ok (.aload_n 0, 1) := by decide +kernel
theorem dX11_all_63 : decode cX11_all 63 = .ok (.getfield 35, 3) := by decide +kernel
theorem dX11_all_66 : decode cX11_all 66 = .ok (.getfield 147, 3) := by decide +kernel
theorem dX11_all_69 : decode cX11_all 69 = .ok (.invokestatic 368, 3) := by decide +kernel
theorem dX11_all_72 : decode cX11_all 72 = .ok (.ireturn, 1) := by decide +kernel
theorem dX11_all_73 : decode cX11_all 73 = .ok (.aload_n 0, 1) := by decide +kernel
theorem dX11_all_74 : decode cX11_all 74 = .ok (.getfield 65, 3) := by decide +kernel
theorem dX11_all_77 : decode cX11_all 77 = .ok (.getfield 359, 3) := by decide +kernel
theorem dX11_all_80 : decode cX11_all 80 = .ok (.ireturn, 1) := by decide +kernel
theorem dX11_all_81 : decode cX11_all 81 = .ok (.aload_n 0, 1) := by decide +kernel
theorem dX11_all_82 : decode cX11_all 82 = .ok (.getfield 51, 3) := by decide +kernel
theorem dX11_all_85 : decode cX11_all 85 = .ok (.invokevirtual 294, 3) := by decide +kernel
theorem dX11_all_88 : decode cX11_all 88 = .ok (.ireturn, 1) := by decide +kernel
theorem dX11_all_89 : decode cX11_all 89 = .ok (.aload_n 0, 1) := by decide +kernel
theorem dX11_all_90 : decode cX11_all 90 = .ok (.getfield 28, 3) := by decide +kernel
theorem dX11_all_93 : decode cX11_all 93 = .ok (.getfield 237, 3) := by decide +kernel
theorem dX11_all_96 : decode cX11_all 96 = .ok (.ireturn, 1) := by decide +kernel
theorem dX11_all_97 : decode cX11_all 97 = .ok (.iconst (-1), 1) := by decide +kernel
theorem dX11_all_98 : decode cX11_all 98 = .ok (.ireturn, 1) := by decide +kernel
theorem dX11_meetsPane_0 : decode cX11_meetsPane 0 = .ok (.aload_n 0, 1) := by decide +kernel
theorem dX11_meetsPane_1 : decode cX11_meetsPane 1 = .ok (.getfield 35, 3) := by decide +kernel
theorem dX11_meetsPane_4 : decode cX11_meetsPane 4 = .ok (.iload_n 1, 1) := by decide +kernel
theorem dX11_meetsPane_5 : decode cX11_meetsPane 5 = .ok (.invokevirtual 191, 3) := by decide +kernel
theorem dX11_meetsPane_8 : decode cX11_meetsPane 8 = .ok (.ifCond .eq 11, 3) := by decide +kernel
theorem dX11_meetsPane_11 : decode cX11_meetsPane 11 = .ok (.iload_n 2, 1) := by decide +kernel
theorem dX11_meetsPane_12 : decode cX11_meetsPane 12 = .ok (.iload_n 3, 1) := by decide +kernel
theorem dX11_meetsPane_13 : decode cX11_meetsPane 13 = .ok (.invokestatic 157, 3) := by decide +kernel
theorem dX11_meetsPane_16 : decode cX11_meetsPane 16 = .ok (.ifCond .ne 5, 3) := by decide +kernel
theorem dX11_meetsPane_19 : decode cX11_meetsPane 19 = .ok (.iconst 0, 1) := by decide +kernel
theorem dX11_meetsPane_20 : decode cX11_meetsPane 20 = .ok (.ireturn, 1) := by decide +kernel
theorem dX11_meetsPane_21 : decode cX11_meetsPane 21 = .ok (.aload_n 0, 1) := by decide +kernel
theorem dX11_meetsPane_22 : decode cX11_meetsPane 22 = .ok (.getfield 44, 3) := by decide +kernel
theorem dX11_meetsPane_25 : decode cX11_meetsPane 25 = .ok (.invokevirtual 162, 3) := by decide +kernel
theorem dX11_meetsPane_28 : decode cX11_meetsPane 28 = .ok (.aload_n 0, 1) := by decide +kernel
theorem dX11_meetsPane_29 : decode cX11_meetsPane 29 = .ok (.getfield 44, 3) := by decide +kernel
theorem dX11_meetsPane_32 : decode cX11_meetsPane 32 = .ok (.getfield 165, 3) := by decide +kernel
theorem dX11_meetsPane_35 : decode cX11_meetsPane 35 = .ok (.ldc2_w 169, 3) := by decide +kernel
theorem dX11_meetsPane_38 : decode cX11_meetsPane 38 = .ok (.aload_n 0, 1) := by decide +kernel
theorem dX11_meetsPane_39 : decode cX11_meetsPane 39 = .ok (.getfield 35, 3) := by decide +kernel
theorem dX11_meetsPane_42 : decode cX11_meetsPane 42 = .ok (.getfield 130, 3) := by decide +kernel
theorem dX11_meetsPane_45 : decode cX11_meetsPane 45 = .ok (.iload_n 1, 1) := by decide +kernel
theorem dX11_meetsPane_46 : decode cX11_meetsPane 46 = .ok (.iaload, 1) := by decide +kernel
theorem dX11_meetsPane_47 : decode cX11_meetsPane 47 = .ok (.i2l, 1) := by decide +kernel
theorem dX11_meetsPane_48 : decode cX11_meetsPane 48 = .ok (.lmul, 1) := by decide +kernel
theorem dX11_meetsPane_49 : decode cX11_meetsPane 49 = .ok (.ldc2_w 169, 3) := by decide +kernel
theorem dX11_meetsPane_52 : decode cX11_meetsPane 52 = .ok (.aload_n 0, 1) := by decide +kernel
theorem dX11_meetsPane_53 : decode cX11_meetsPane 53 = .ok (.getfield 35, 3) := by decide +kernel
theorem dX11_meetsPane_56 : decode cX11_meetsPane 56 = .ok (.getfield 134, 3) := by decide +kernel
theorem dX11_meetsPane_59 : decode cX11_meetsPane 59 = .ok (.iload_n 1, 1) := by decide +kernel
theorem dX11_meetsPane_60 : decode cX11_meetsPane 60 = .ok (.iaload, 1) := by decide +kernel
theorem dX11_meetsPane_61 : decode cX11_meetsPane 61 = .ok (.i2l, 1) := by decide +kernel
theorem dX11_meetsPane_62 : decode cX11_meetsPane 62 = .ok (.lmul, 1) := by decide +kernel
theorem dX11_meetsPane_63 : decode cX11_meetsPane 63 = .ok (.ldc2_w 169, 3) := by decide +kernel
theorem dX11_meetsPane_66 : decode cX11_meetsPane 66 = .ok (.iload_n 2, 1) := by decide +kernel
theorem dX11_meetsPane_67 : decode cX11_meetsPane 67 = .ok (.i2l, 1) := by decide +kernel
theorem dX11_meetsPane_68 : decode cX11_meetsPane 68 = .ok (.lmul, 1) := by decide +kernel
theorem dX11_meetsPane_69 : decode cX11_meetsPane 69 = .ok (.ldc2_w 169, 3) := by decide +kernel
theorem dX11_meetsPane_72 : decode cX11_meetsPane 72 = .ok (.iload_n 3, 1) := by decide +kernel
theorem dX11_meetsPane_73 : decode cX11_meetsPane 73 = .ok (.i2l, 1) := by decide +kernel
theorem dX11_meetsPane_74 : decode cX11_meetsPane 74 = .ok (.lmul, 1) := by decide +kernel
theorem dX11_meetsPane_75 : decode cX11_meetsPane 75 = .ok (.invokevirtual 372, 3) := by decide +kernel
theorem dX11_meetsPane_78 : decode cX11_meetsPane 78 = .ok (.ireturn, 1) := by decide +kernel
theorem dX11_canTry_0 : decode cX11_canTry 0 = .ok (.iload_n 1, 1) := by decide +kernel
theorem dX11_canTry_1 : decode cX11_canTry 1 = .ok (.ifCond .lt 32, 3) := by decide +kernel
theorem dX11_canTry_4 : decode cX11_canTry 4 = .ok (.iload_n 1, 1) := by decide +kernel
theorem dX11_canTry_5 : decode cX11_canTry 5 = .ok (.aload_n 0, 1) := by decide +kernel
theorem dX11_canTry_6 : decode cX11_canTry 6 = .ok (.getfield 51, 3) := by decide +kernel
theorem dX11_canTry_9 : decode cX11_canTry 9 = .ok (.invokevirtual 294, 3) := by decide +kernel
theorem dX11_canTry_12 : decode cX11_canTry 12 = .ok (.if_icmp .ge 21, 3) := by decide +kernel
theorem dX11_canTry_15 : decode cX11_canTry 15 = .ok (.aload_n 0, 1) := by decide +kernel
theorem dX11_canTry_16 : decode cX11_canTry 16 = .ok (.getfield 51, 3) := by decide +kernel
theorem dX11_canTry_19 : decode cX11_canTry 19 = .ok (.aload_n 0, 1) := by decide +kernel
theorem dX11_canTry_20 : decode cX11_canTry 20 = .ok (.getfield 35, 3) := by decide +kernel
theorem dX11_canTry_23 : decode cX11_canTry 23 = .ok (.invokevirtual 290, 3) := by decide +kernel
theorem dX11_canTry_26 : decode cX11_canTry 26 = .ok (.ifCond .eq 7, 3) := by decide +kernel
theorem dX11_canTry_29 : decode cX11_canTry 29 = .ok (.iconst 1, 1) := by decide +kernel
theorem dX11_canTry_30 : decode cX11_canTry 30 = .ok (.goto 4, 3) := by decide +kernel
theorem dX11_canTry_33 : decode cX11_canTry 33 = .ok (.iconst 0, 1) := by decide +kernel
theorem dX11_canTry_34 : decode cX11_canTry 34 = .ok (.ireturn, 1) := by decide +kernel
theorem dX11_takeAway_0 : decode cX11_takeAway 0 = .ok (.iload_n 1, 1) := by decide +kernel
theorem dX11_takeAway_1 : decode cX11_takeAway 1 = .ok (.ifCond .lt 15, 3) := by decide +kernel
theorem dX11_takeAway_4 : decode cX11_takeAway 4 = .ok (.iload_n 1, 1) := by decide +kernel
theorem dX11_takeAway_5 : decode cX11_takeAway 5 = .ok (.aload_n 0, 1) := by decide +kernel
theorem dX11_takeAway_6 : decode cX11_takeAway 6 = .ok (.arraylength, 1) := by decide +kernel
theorem dX11_takeAway_7 : decode cX11_takeAway 7 = .ok (.if_icmp .ge 9, 3) := by decide +kernel
theorem dX11_takeAway_10 : decode cX11_takeAway 10 = .ok (.aload_n 0, 1) := by decide +kernel
theorem dX11_takeAway_11 : decode cX11_takeAway 11 = .ok (.iload_n 1, 1) := by decide +kernel
theorem dX11_takeAway_12 : decode cX11_takeAway 12 = .ok (.baload, 1) := by decide +kernel
theorem dX11_takeAway_13 : decode cX11_takeAway 13 = .ok (.ifCond .ne 5, 3) := by decide +kernel
theorem dX11_takeAway_16 : decode cX11_takeAway 16 = .ok (.iconst 0, 1) := by decide +kernel
theorem dX11_takeAway_17 : decode cX11_takeAway 17 = .ok (.ireturn, 1) := by decide +kernel
theorem dX11_takeAway_18 : decode cX11_takeAway 18 = .ok (.aload_n 0, 1) := by decide +kernel
theorem dX11_takeAway_19 : decode cX11_takeAway 19 = .ok (.iload_n 1, 1) := by decide +kernel
theorem dX11_takeAway_20 : decode cX11_takeAway 20 = .ok (.iconst 0, 1) := by decide +kernel
theorem dX11_takeAway_21 : decode cX11_takeAway 21 = .ok (.bastore, 1) := by decide +kernel
theorem dX11_takeAway_22 : decode cX11_takeAway 22 = .ok (.iconst 1, 1) := by decide +kernel
theorem dX11_takeAway_23 : decode cX11_takeAway 23 = .ok (.ireturn, 1) := by decide +kernel
theorem dX11_howMany_0 : decode cX11_howMany 0 = .ok (.iconst 0, 1) := by decide +kernel
theorem dX11_howMany_1 : decode cX11_howMany 1 = .ok (.istore_n 1, 1) := by decide +kernel
theorem dX11_howMany_2 : decode cX11_howMany 2 = .ok (.iconst 0, 1) := by decide +kernel
theorem dX11_howMany_3 : decode cX11_howMany 3 = .ok (.istore_n 2, 1) := by decide +kernel
theorem dX11_howMany_4 : decode cX11_howMany 4 = .ok (.iload_n 2, 1) := by decide +kernel
theorem dX11_howMany_5 : decode cX11_howMany 5 = .ok (.aload_n 0, 1) := by decide +kernel
theorem dX11_howMany_6 : decode cX11_howMany 6 = .ok (.arraylength, 1) := by decide +kernel
theorem dX11_howMany_7 : decode cX11_howMany 7 = .ok (.if_icmp .ge 18, 3) := by decide +kernel
theorem dX11_howMany_10 : decode cX11_howMany 10 = .ok (.aload_n 0, 1) := by decide +kernel
theorem dX11_howMany_11 : decode cX11_howMany 11 = .ok (.iload_n 2, 1) := by decide +kernel
theorem dX11_howMany_12 : decode cX11_howMany 12 = .ok (.baload, 1) := by decide +kernel
theorem dX11_howMany_13 : decode cX11_howMany 13 = .ok (.ifCond .eq 6, 3) := by decide +kernel
theorem dX11_howMany_16 : decode cX11_howMany 16 = .ok (.iinc 1 1, 3) := by decide +kernel
theorem dX11_howMany_19 : decode cX11_howMany 19 = .ok (.iinc 2 1, 3) := by decide +kernel
theorem dX11_howMany_22 : decode cX11_howMany 22 = .ok (.goto (-18), 3) := by decide +kernel
theorem dX11_howMany_25 : decode cX11_howMany 25 = .ok (.iload_n 1, 1) := by decide +kernel
theorem dX11_howMany_26 : decode cX11_howMany 26 = .ok (.ireturn, 1) := by decide +kernel
theorem dX11_bit_0 : decode cX11_bit 0 = .ok (.iload_n 0, 1) := by decide +kernel
theorem dX11_bit_1 : decode cX11_bit 1 = .ok (.ifCond .eq 7, 3) := by decide +kernel
theorem dX11_bit_4 : decode cX11_bit 4 = .ok (.iconst 1, 1) := by decide +kernel
theorem dX11_bit_5 : decode cX11_bit 5 = .ok (.goto 4, 3) := by decide +kernel
theorem dX11_bit_8 : decode cX11_bit 8 = .ok (.iconst 0, 1) := by decide +kernel
theorem dX11_bit_9 : decode cX11_bit 9 = .ok (.ireturn, 1) := by decide +kernel
theorem dX11_within_0 : decode cX11_within 0 = .ok (.iload_n 0, 1) := by decide +kernel
theorem dX11_within_1 : decode cX11_within 1 = .ok (.iload_n 1, 1) := by decide +kernel
theorem dX11_within_2 : decode cX11_within 2 = .ok (.if_icmp .lt 12, 3) := by decide +kernel
theorem dX11_within_5 : decode cX11_within 5 = .ok (.iload_n 0, 1) := by decide +kernel
theorem dX11_within_6 : decode cX11_within 6 = .ok (.iload_n 2, 1) := by decide +kernel
theorem dX11_within_7 : decode cX11_within 7 = .ok (.if_icmp .gt 7, 3) := by decide +kernel
theorem dX11_within_10 : decode cX11_within 10 = .ok (.iconst 1, 1) := by decide +kernel
theorem dX11_within_11 : decode cX11_within 11 = .ok (.goto 4, 3) := by decide +kernel
theorem dX11_within_14 : decode cX11_within 14 = .ok (.iconst 0, 1) := by decide +kernel
theorem dX11_within_15 : decode cX11_within 15 = .ok (.ireturn, 1) := by decide +kernel
theorem dX11_isPlace_0 : decode cX11_isPlace 0 = .ok (.iload_n 0, 1) := by decide +kernel
theorem dX11_isPlace_1 : decode cX11_isPlace 1 = .ok (.bipush (-100), 2) := by decide +kernel
theorem dX11_isPlace_3 : decode cX11_isPlace 3 = .ok (.bipush 100, 2) := by decide +kernel
theorem dX11_isPlace_5 : decode cX11_isPlace 5 = .ok (.invokestatic 109, 3) := by decide +kernel
theorem dX11_isPlace_8 : decode cX11_isPlace 8 = .ok (.ifCond .eq 18, 3) := by decide +kernel
theorem dX11_isPlace_11 : decode cX11_isPlace 11 = .ok (.iload_n 1, 1) := by decide +kernel
theorem dX11_isPlace_12 : decode cX11_isPlace 12 = .ok (.bipush (-100), 2) := by decide +kernel
theorem dX11_isPlace_14 : decode cX11_isPlace 14 = .ok (.bipush 100, 2) := by decide +kernel
theorem dX11_isPlace_16 : decode cX11_isPlace 16 = .ok (.invokestatic 109, 3) := by decide +kernel
theorem dX11_isPlace_19 : decode cX11_isPlace 19 = .ok (.ifCond .eq 7, 3) := by decide +kernel
theorem dX11_isPlace_22 : decode cX11_isPlace 22 = .ok (.iconst 1, 1) := by decide +kernel
theorem dX11_isPlace_23 : decode cX11_isPlace 23 = .ok (.goto 4, 3) := by decide +kernel
theorem dX11_isPlace_26 : decode cX11_isPlace 26 = .ok (.iconst 0, 1) := by decide +kernel
theorem dX11_isPlace_27 : decode cX11_isPlace 27 = .ok (.ireturn, 1) := by decide +kernel
theorem dX11_isFarPlace_0 : decode cX11_isFarPlace 0 = .ok (.iload_n 0, 1) := by decide +kernel
theorem dX11_isFarPlace_1 : decode cX11_isFarPlace 1 = .ok (.sipush (-200), 3) := by decide +kernel
theorem dX11_isFarPlace_4 : decode cX11_isFarPlace 4 = .ok (.sipush 200, 3) := by decide +kernel
theorem dX11_isFarPlace_7 : decode cX11_isFarPlace 7 = .ok (.invokestatic 109, 3) := by decide +kernel
theorem dX11_isFarPlace_10 : decode cX11_isFarPlace 10 = .ok (.ifCond .eq 20, 3) := by decide +kernel
theorem dX11_isFarPlace_13 : decode cX11_isFarPlace 13 = .ok (.iload_n 1, 1) := by decide +kernel
theorem dX11_isFarPlace_14 : decode cX11_isFarPlace 14 = .ok (.sipush (-200), 3) := by decide +kernel
theorem dX11_isFarPlace_17 : decode cX11_isFarPlace 17 = .ok (.sipush 200, 3) := by decide +kernel
theorem dX11_isFarPlace_20 : decode cX11_isFarPlace 20 = .ok (.invokestatic 109, 3) := by decide +kernel
theorem dX11_isFarPlace_23 : decode cX11_isFarPlace 23 = .ok (.ifCond .eq 7, 3) := by decide +kernel
theorem dX11_isFarPlace_26 : decode cX11_isFarPlace 26 = .ok (.iconst 1, 1) := by decide +kernel
theorem dX11_isFarPlace_27 : decode cX11_isFarPlace 27 = .ok (.goto 4, 3) := by decide +kernel
theorem dX11_isFarPlace_30 : decode cX11_isFarPlace 30 = .ok (.iconst 0, 1) := by decide +kernel
theorem dX11_isFarPlace_31 : decode cX11_isFarPlace 31 = .ok (.ireturn, 1) := by decide +kernel
theorem dX11_isStretch_0 : decode cX11_isStretch 0 = .ok (.iload_n 0, 1) := by decide +kernel
theorem dX11_isStretch_1 : decode cX11_isStretch 1 = .ok (.iload_n 1, 1) := by decide +kernel
theorem dX11_isStretch_2 : decode cX11_isStretch 2 = .ok (.invokestatic 122, 3) := by decide +kernel
theorem dX11_isStretch_5 : decode cX11_isStretch 5 = .ok (.ifCond .eq 25, 3) := by decide +kernel
theorem dX11_isStretch_8 : decode cX11_isStretch 8 = .ok (.iload_n 2, 1) := by decide +kernel
theorem dX11_isStretch_9 : decode cX11_isStretch 9 = .ok (.iload_n 3, 1) := by decide +kernel
theorem dX11_isStretch_10 : decode cX11_isStretch 10 = .ok (.invokestatic 122, 3) := by decide +kernel
theorem dX11_isStretch_13 : decode cX11_isStretch 13 = .ok (.ifCond .eq 17, 3) := by decide +kernel
theorem dX11_isStretch_16 : decode cX11_isStretch 16 = .ok (.iload_n 0, 1) := by decide +kernel
theorem dX11_isStretch_17 : decode cX11_isStretch 17 = .ok (.iload_n 2, 1) := by decide +kernel
theorem dX11_isStretch_18 : decode cX11_isStretch 18 = .ok (.if_icmp .ne 8, 3) := by decide +kernel
theorem dX11_isStretch_21 : decode cX11_isStretch 21 = .ok (.iload_n 1, 1) := by decide +kernel
theorem dX11_isStretch_22 : decode cX11_isStretch 22 = .ok (.iload_n 3, 1) := by decide +kernel
theorem dX11_isStretch_23 : decode cX11_isStretch 23 = .ok (.if_icmp .eq 7, 3) := by decide +kernel
theorem dX11_isStretch_26 : decode cX11_isStretch 26 = .ok (.iconst 1, 1) := by decide +kernel
theorem dX11_isStretch_27 : decode cX11_isStretch 27 = .ok (.goto 4, 3) := by decide +kernel
theorem dX11_isStretch_30 : decode cX11_isStretch 30 = .ok (.iconst 0, 1) := by decide +kernel
theorem dX11_isStretch_31 : decode cX11_isStretch 31 = .ok (.ireturn, 1) := by decide +kernel
theorem dX12_isIn_0 : decode cX12_isIn 0 = .ok (.iload_n 0, 1) := by decide +kernel
theorem dX12_isIn_1 : decode cX12_isIn 1 = .ok (.iload_n 1, 1) := by decide +kernel
theorem dX12_isIn_2 : decode cX12_isIn 2 = .ok (.if_icmp .lt 12, 3) := by decide +kernel
theorem dX12_isIn_5 : decode cX12_isIn 5 = .ok (.iload_n 0, 1) := by decide +kernel
theorem dX12_isIn_6 : decode cX12_isIn 6 = .ok (.iload_n 2, 1) := by decide +kernel
theorem dX12_isIn_7 : decode cX12_isIn 7 = .ok (.if_icmp .gt 7, 3) := by decide +kernel
theorem dX12_isIn_10 : decode cX12_isIn 10 = .ok (.iconst 1, 1) := by decide +kernel
theorem dX12_isIn_11 : decode cX12_isIn 11 = .ok (.goto 4, 3) := by decide +kernel
theorem dX12_isIn_14 : decode cX12_isIn 14 = .ok (.iconst 0, 1) := by decide +kernel
theorem dX12_isIn_15 : decode cX12_isIn 15 = .ok (.ireturn, 1) := by decide +kernel
theorem dX12_isPlace_0 : decode cX12_isPlace 0 = .ok (.iload_n 0, 1) := by decide +kernel
theorem dX12_isPlace_1 : decode cX12_isPlace 1 = .ok (.bipush (-100), 2) := by decide +kernel
theorem dX12_isPlace_3 : decode cX12_isPlace 3 = .ok (.bipush 100, 2) := by decide +kernel
theorem dX12_isPlace_5 : decode cX12_isPlace 5 = .ok (.invokestatic 3, 3) := by decide +kernel
theorem dX12_isPlace_8 : decode cX12_isPlace 8 = .ok (.ifCond .eq 18, 3) := by decide +kernel
theorem dX12_isPlace_11 : decode cX12_isPlace 11 = .ok (.iload_n 1, 1) := by decide +kernel
theorem dX12_isPlace_12 : decode cX12_isPlace 12 = .ok (.bipush (-100), 2) := by decide +kernel
theorem dX12_isPlace_14 : decode cX12_isPlace 14 = .ok (.bipush 100, 2) := by decide +kernel
theorem dX12_isPlace_16 : decode cX12_isPlace 16 = .ok (.invokestatic 3, 3) := by decide +kernel
theorem dX12_isPlace_19 : decode cX12_isPlace 19 = .ok (.ifCond .eq 7, 3) := by decide +kernel
theorem dX12_isPlace_22 : decode cX12_isPlace 22 = .ok (.iconst 1, 1) := by decide +kernel
theorem dX12_isPlace_23 : decode cX12_isPlace 23 = .ok (.goto 4, 3) := by decide +kernel
theorem dX12_isPlace_26 : decode cX12_isPlace 26 = .ok (.iconst 0, 1) := by decide +kernel
theorem dX12_isPlace_27 : decode cX12_isPlace 27 = .ok (.ireturn, 1) := by decide +kernel
theorem dX12_areTwo_0 : decode cX12_areTwo 0 = .ok (.iload_n 0, 1) := by decide +kernel
theorem dX12_areTwo_1 : decode cX12_areTwo 1 = .ok (.iload_n 1, 1) := by decide +kernel
theorem dX12_areTwo_2 : decode cX12_areTwo 2 = .ok (.invokestatic 7, 3) := by decide +kernel
theorem dX12_areTwo_5 : decode cX12_areTwo 5 = .ok (.ifCond .eq 25, 3) := by decide +kernel
theorem dX12_areTwo_8 : decode cX12_areTwo 8 = .ok (.iload_n 2, 1) := by decide +kernel
theorem dX12_areTwo_9 : decode cX12_areTwo 9 = .ok (.iload_n 3, 1) := by decide +kernel
theorem dX12_areTwo_10 : decode cX12_areTwo 10 = .ok (.invokestatic 7, 3) := by decide +kernel
theorem dX12_areTwo_13 : decode cX12_areTwo 13 = .ok (.ifCond .eq 17, 3) := by decide +kernel
theorem dX12_areTwo_16 : decode cX12_areTwo 16 = .ok (.iload_n 0, 1) := by decide +kernel
theorem dX12_areTwo_17 : decode cX12_areTwo 17 = .ok (.iload_n 2, 1) := by decide +kernel
theorem dX12_areTwo_18 : decode cX12_areTwo 18 = .ok (.if_icmp .ne 8, 3) := by decide +kernel
theorem dX12_areTwo_21 : decode cX12_areTwo 21 = .ok (.iload_n 1, 1) := by decide +kernel
theorem dX12_areTwo_22 : decode cX12_areTwo 22 = .ok (.iload_n 3, 1) := by decide +kernel
theorem dX12_areTwo_23 : decode cX12_areTwo 23 = .ok (.if_icmp .eq 7, 3) := by decide +kernel
theorem dX12_areTwo_26 : decode cX12_areTwo 26 = .ok (.iconst 1, 1) := by decide +kernel
theorem dX12_areTwo_27 : decode cX12_areTwo 27 = .ok (.goto 4, 3) := by decide +kernel
theorem dX12_areTwo_30 : decode cX12_areTwo 30 = .ok (.iconst 0, 1) := by decide +kernel
theorem dX12_areTwo_31 : decode cX12_areTwo 31 = .ok (.ireturn, 1) := by decide +kernel
theorem dX12_pane_0 : decode cX12_pane 0 = .ok (.iload_n 1, 1) := by decide +kernel
theorem dX12_pane_1 : decode cX12_pane 1 = .ok (.iload_n 2, 1) := by decide +kernel
theorem dX12_pane_2 : decode cX12_pane 2 = .ok (.iload_n 3, 1) := by decide +kernel
theorem dX12_pane_3 : decode cX12_pane 3 = .ok (.iload 4, 2) := by decide +kernel
theorem dX12_pane_5 : decode cX12_pane 5 = .ok (.invokestatic 11, 3) := by decide +kernel
theorem dX12_pane_8 : decode cX12_pane 8 = .ok (.ifCond .ne 5, 3) := by decide +kernel
theorem dX12_pane_11 : decode cX12_pane 11 = .ok (.iconst 0, 1) := by decide +kernel
theorem dX12_pane_12 : decode cX12_pane 12 = .ok (.ireturn, 1) := by decide +kernel
theorem dX12_pane_13 : decode cX12_pane 13 = .ok (.aload_n 0, 1) := by decide +kernel
theorem dX12_pane_14 : decode cX12_pane 14 = .ok (.iload_n 1, 1) := by decide +kernel
theorem dX12_pane_15 : decode cX12_pane 15 = .ok (.putfield 15, 3) := by decide +kernel
theorem dX12_pane_18 : decode cX12_pane 18 = .ok (.aload_n 0, 1) := by decide +kernel
theorem dX12_pane_19 : decode cX12_pane 19 = .ok (.iload_n 2, 1) := by decide +kernel
theorem dX12_pane_20 : decode cX12_pane 20 = .ok (.putfield 19, 3) := by decide +kernel
theorem dX12_pane_23 : decode cX12_pane 23 = .ok (.aload_n 0, 1) := by decide +kernel
theorem dX12_pane_24 : decode cX12_pane 24 = .ok (.iload_n 3, 1) := by decide +kernel
theorem dX12_pane_25 : decode cX12_pane 25 = .ok (.putfield 22, 3) := by decide +kernel
theorem dX12_pane_28 : decode cX12_pane 28 = .ok (.aload_n 0, 1) := by decide +kernel
theorem dX12_pane_29 : decode cX12_pane 29 = .ok (.iload 4, 2) := by decide +kernel
theorem dX12_pane_31 : decode cX12_pane 31 = .ok (.putfield 25, 3) := by decide +kernel
theorem dX12_pane_34 : decode cX12_pane 34 = .ok (.iconst 1, 1) := by decide +kernel
theorem dX12_pane_35 : decode cX12_pane 35 = .ok (.ireturn, 1) := by decide +kernel
theorem dX12_board_0 : decode cX12_board 0 = .ok (.iload_n 1, 1) := by decide +kernel
theorem dX12_board_1 : decode cX12_board 1 = .ok (.iload_n 2, 1) := by decide +kernel
theorem dX12_board_2 : decode cX12_board 2 = .ok (.iload_n 3, 1) := by decide +kernel
theorem dX12_board_3 : decode cX12_board 3 = .ok (.iload 4, 2) := by decide +kernel
theorem dX12_board_5 : decode cX12_board 5 = .ok (.invokestatic 11, 3) := by decide +kernel
theorem dX12_board_8 : decode cX12_board 8 = .ok (.ifCond .ne 5, 3) := by decide +kernel
theorem dX12_board_11 : decode cX12_board 11 = .ok (.iconst 0, 1) := by decide +kernel
theorem dX12_board_12 : decode cX12_board 12 = .ok (.ireturn, 1) := by decide +kernel
theorem dX12_board_13 : decode cX12_board 13 = .ok (.aload_n 0, 1) := by decide +kernel
theorem dX12_board_14 : decode cX12_board 14 = .ok (.iload_n 1, 1) := by decide +kernel
theorem dX12_board_15 : decode cX12_board 15 = .ok (.putfield 28, 3) := by decide +kernel
theorem dX12_board_18 : decode cX12_board 18 = .ok (.aload_n 0, 1) := by decide +kernel
theorem dX12_board_19 : decode cX12_board 19 = .ok (.iload_n 2, 1) := by decide +kernel
theorem dX12_board_20 : decode cX12_board 20 = .ok (.putfield 31, 3) := by decide +kernel
theorem dX12_board_23 : decode cX12_board 23 = .ok (.aload_n 0, 1) := by decide +kernel
theorem dX12_board_24 : decode cX12_board 24 = .ok (.iload_n 3, 1) := by decide +kernel
theorem dX12_board_25 : decode cX12_board 25 = .ok (.putfield 34, 3) := by decide +kernel
theorem dX12_board_28 : decode cX12_board 28 = .ok (.aload_n 0, 1) := by decide +kernel
theorem dX12_board_29 : decode cX12_board 29 = .ok (.iload 4, 2) := by decide +kernel
theorem dX12_board_31 : decode cX12_board 31 = .ok (.putfield 37, 3) := by decide +kernel
theorem dX12_board_34 : decode cX12_board 34 = .ok (.iconst 1, 1) := by decide +kernel
theorem dX12_board_35 : decode cX12_board 35 = .ok (.ireturn, 1) := by decide +kernel
theorem dX12_heights_0 : decode cX12_heights 0 = .ok (.iload_n 1, 1) := by decide +kernel
theorem dX12_heights_1 : decode cX12_heights 1 = .ok (.bipush (-100), 2) := by decide +kernel
theorem dX12_heights_3 : decode cX12_heights 3 = .ok (.bipush 100, 2) := by decide +kernel
theorem dX12_heights_5 : decode cX12_heights 5 = .ok (.invokestatic 3, 3) := by decide +kernel
theorem dX12_heights_8 : decode cX12_heights 8 = .ok (.ifCond .eq 23, 3) := by decide +kernel
theorem dX12_heights_11 : decode cX12_heights 11 = .ok (.iload_n 2, 1) := by decide +kernel
theorem dX12_heights_12 : decode cX12_heights 12 = .ok (.iconst 0, 1) := by decide +kernel
theorem dX12_heights_13 : decode cX12_heights 13 = .ok (.bipush 50, 2) := by decide +kernel
theorem dX12_heights_15 : decode cX12_heights 15 = .ok (.invokestatic 3, 3) := by decide +kernel
theorem dX12_heights_18 : decode cX12_heights 18 = .ok (.ifCond .eq 13, 3) := by decide +kernel
theorem dX12_heights_21 : decode cX12_heights 21 = .ok (.iload_n 3, 1) := by decide +kernel
theorem dX12_heights_22 : decode cX12_heights 22 = .ok (.iconst 0, 1) := by decide +kernel
theorem dX12_heights_23 : decode cX12_heights 23 = .ok (.bipush 60, 2) := by decide +kernel
theorem dX12_heights_25 : decode cX12_heights 25 = .ok (.invokestatic 3, 3) := by decide +kernel
theorem dX12_heights_28 : decode cX12_heights 28 = .ok (.ifCond .ne 5, 3) := by decide +kernel
theorem dX12_heights_31 : decode cX12_heights 31 = .ok (.iconst 0, 1) := by decide +kernel
theorem dX12_heights_32 : decode cX12_heights 32 = .ok (.ireturn, 1) := by decide +kernel
theorem dX12_heights_33 : decode cX12_heights 33 = .ok (.aload_n 0, 1) := by decide +kernel
theorem dX12_heights_34 : decode cX12_heights 34 = .ok (.iload_n 1, 1) := by decide +kernel
theorem dX12_heights_35 : decode cX12_heights 35 = .ok (.putfield 40, 3) := by decide +kernel
theorem dX12_heights_38 : decode cX12_heights 38 = .ok (.aload_n 0, 1) := by decide +kernel
theorem dX12_heights_39 : decode cX12_heights 39 = .ok (.iload_n 2, 1) := by decide +kernel
theorem dX12_heights_40 : decode cX12_heights 40 = .ok (.putfield 43, 3) := by decide +kernel
theorem dX12_heights_43 : decode cX12_heights 43 = .ok (.aload_n 0, 1) := by decide +kernel
theorem dX12_heights_44 : decode cX12_heights 44 = .ok (.iload_n 3, 1) := by decide +kernel
theorem dX12_heights_45 : decode cX12_heights 45 = .ok (.putfield 46, 3) := by decide +kernel
theorem dX12_heights_48 : decode cX12_heights 48 = .ok (.iconst 1, 1) := by decide +kernel
theorem dX12_heights_49 : decode cX12_heights 49 = .ok (.ireturn, 1) := by decide +kernel
theorem dX12_seat_0 : decode cX12_seat 0 = .ok (.iload_n 1, 1) := by decide +kernel
theorem dX12_seat_1 : decode cX12_seat 1 = .ok (.iconst 0, 1) := by decide +kernel
theorem dX12_seat_2 : decode cX12_seat 2 = .ok (.bipush 7, 2) := by decide +kernel
theorem dX12_seat_4 : decode cX12_seat 4 = .ok (.invokestatic 3, 3) := by decide +kernel
theorem dX12_seat_7 : decode cX12_seat 7 = .ok (.ifCond .eq 11, 3) := by decide +kernel
theorem dX12_seat_10 : decode cX12_seat 10 = .ok (.iload_n 2, 1) := by decide +kernel
theorem dX12_seat_11 : decode cX12_seat 11 = .ok (.iload_n 3, 1) := by decide +kernel
theorem dX12_seat_12 : decode cX12_seat 12 = .ok (.invokestatic 7, 3) := by decide +kernel
theorem dX12_seat_15 : decode cX12_seat 15 = .ok (.ifCond .ne 5, 3) := by decide +kernel
theorem dX12_seat_18 : decode cX12_seat 18 = .ok (.iconst 0, 1) := by decide +kernel
theorem dX12_seat_19 : decode cX12_seat 19 = .ok (.ireturn, 1) := by decide +kernel
theorem dX12_seat_20 : decode cX12_seat 20 = .ok (.aload_n 0, 1) := by decide +kernel
theorem dX12_seat_21 : decode cX12_seat 21 = .ok (.getfield 49, 3) := by decide +kernel
theorem dX12_seat_24 : decode cX12_seat 24 = .ok (.iload_n 1, 1) := by decide +kernel
theorem dX12_seat_25 : decode cX12_seat 25 = .ok (.iconst 1, 1) := by decide +kernel
theorem dX12_seat_26 : decode cX12_seat 26 = .ok (.bastore, 1) := by decide +kernel
theorem dX12_seat_27 : decode cX12_seat 27 = .ok (.aload_n 0, 1) := by decide +kernel
theorem dX12_seat_28 : decode cX12_seat 28 = .ok (.getfield 53, 3) := by decide +kernel
theorem dX12_seat_31 : decode cX12_seat 31 = .ok (.iload_n 1, 1) := by decide +kernel
theorem dX12_seat_32 : decode cX12_seat 32 = .ok (.iload_n 2, 1) := by decide +kernel
theorem dX12_seat_33 : decode cX12_seat 33 = .ok (.iastore, 1) := by decide +kernel
theorem dX12_seat_34 : decode cX12_seat 34 = .ok (.aload_n 0, 1) := by decide +kernel
theorem dX12_seat_35 : decode cX12_seat 35 = .ok (.getfield 57, 3) := by decide +kernel
theorem dX12_seat_38 : decode cX12_seat 38 = .ok (.iload_n 1, 1) := by decide +kernel
theorem dX12_seat_39 : decode cX12_seat 39 = .ok (.iload_n 3, 1) := by decide +kernel
theorem dX12_seat_40 : decode cX12_seat 40 = .ok (.iastore, 1) := by decide +kernel
theorem dX12_seat_41 : decode cX12_seat 41 = .ok (.iconst 1, 1) := by decide +kernel
theorem dX12_seat_42 : decode cX12_seat 42 = .ok (.ireturn, 1) := by decide +kernel
theorem dX12_wall_0 : decode cX12_wall 0 = .ok (.iload_n 1, 1) := by decide +kernel
theorem dX12_wall_1 : decode cX12_wall 1 = .ok (.iconst 0, 1) := by decide +kernel
theorem dX12_wall_2 : decode cX12_wall 2 = .ok (.bipush 11, 2) := by decide +kernel
theorem dX12_wall_4 : decode cX12_wall 4 = .ok (.invokestatic 3, 3) := by decide +kernel
theorem dX12_wall_7 : decode cX12_wall 7 = .ok (.ifCond .eq 15, 3) := by decide +kernel
theorem dX12_wall_10 : decode cX12_wall 10 = .ok (.iload_n 2, 1) := by decide +kernel
theorem dX12_wall_11 : decode cX12_wall 11 = .ok (.iload_n 3, 1) := by decide +kernel
theorem dX12_wall_12 : decode cX12_wall 12 = .ok (.iload 4, 2) := by decide +kernel
theorem dX12_wall_14 : decode cX12_wall 14 = .ok (.iload 5, 2) := by decide +kernel
theorem dX12_wall_16 : decode cX12_wall 16 = .ok (.invokestatic 11, 3) := by decide +kernel
theorem dX12_wall_19 : decode cX12_wall 19 = .ok (.ifCond .ne 5, 3) := by decide +kernel
theorem dX12_wall_22 : decode cX12_wall 22 = .ok (.iconst 0, 1) := by decide +kernel
theorem dX12_wall_23 : decode cX12_wall 23 = .ok (.ireturn, 1) := by decide +kernel
theorem dX12_wall_24 : decode cX12_wall 24 = .ok (.aload_n 0, 1) := by decide +kernel
theorem dX12_wall_25 : decode cX12_wall 25 = .ok (.getfield 60, 3) := by decide +kernel
theorem dX12_wall_28 : decode cX12_wall 28 = .ok (.iload_n 1, 1) := by decide +kernel
theorem dX12_wall_29 : decode cX12_wall 29 = .ok (.iconst 1, 1) := by decide +kernel
theorem dX12_wall_30 : decode cX12_wall 30 = .ok (.bastore, 1) := by decide +kernel
theorem dX12_wall_31 : decode cX12_wall 31 = .ok (.aload_n 0, 1) := by decide +kernel
theorem dX12_wall_32 : decode cX12_wall 32 = .ok (.getfield 63, 3) := by decide +kernel
theorem dX12_wall_35 : decode cX12_wall 35 = .ok (.iload_n 1, 1) := by decide +kernel
theorem dX12_wall_36 : decode cX12_wall 36 = .ok (.iload_n 2, 1) := by decide +kernel
theorem dX12_wall_37 : decode cX12_wall 37 = .ok (.iastore, 1) := by decide +kernel
theorem dX12_wall_38 : decode cX12_wall 38 = .ok (.aload_n 0, 1) := by decide +kernel
theorem dX12_wall_39 : decode cX12_wall 39 = .ok (.getfield 66, 3) := by decide +kernel
theorem dX12_wall_42 : decode cX12_wall 42 = .ok (.iload_n 1, 1) := by decide +kernel
theorem dX12_wall_43 : decode cX12_wall 43 = .ok (.iload_n 3, 1) := by decide +kernel
theorem dX12_wall_44 : decode cX12_wall 44 = .ok (.iastore, 1) := by decide +kernel
theorem dX12_wall_45 : decode cX12_wall 45 = .ok (.aload_n 0, 1) := by decide +kernel
theorem dX12_wall_46 : decode cX12_wall 46 = .ok (.getfield 69, 3) := by decide +kernel
theorem dX12_wall_49 : decode cX12_wall 49 = .ok (.iload_n 1, 1) := by decide +kernel
theorem dX12_wall_50 : decode cX12_wall 50 = .ok (.iload 4, 2) := by decide +kernel
theorem dX12_wall_52 : decode cX12_wall 52 = .ok (.iastore, 1) := by decide +kernel
theorem dX12_wall_53 : decode cX12_wall 53 = .ok (.aload_n 0, 1) := by decide +kernel
theorem dX12_wall_54 : decode cX12_wall 54 = .ok (.getfield 72, 3) := by decide +kernel
theorem dX12_wall_57 : decode cX12_wall 57 = .ok (.iload_n 1, 1) := by decide +kernel
theorem dX12_wall_58 : decode cX12_wall 58 = .ok (.iload 5, 2) := by decide +kernel
theorem dX12_wall_60 : decode cX12_wall 60 = .ok (.iastore, 1) := by decide +kernel
theorem dX12_wall_61 : decode cX12_wall 61 = .ok (.aload_n 0, 1) := by decide +kernel
theorem dX12_wall_62 : decode cX12_wall 62 = .ok (.getfield 75, 3) := by decide +kernel
theorem dX12_wall_65 : decode cX12_wall 65 = .ok (.iload_n 1, 1) := by decide +kernel
theorem dX12_wall_66 : decode cX12_wall 66 = .ok (.iload 6, 2) := by decide +kernel
theorem dX12_wall_68 : decode cX12_wall 68 = .ok (.bastore, 1) := by decide +kernel
theorem dX12_wall_69 : decode cX12_wall 69 = .ok (.iconst 1, 1) := by decide +kernel
theorem dX12_wall_70 : decode cX12_wall 70 = .ok (.ireturn, 1) := by decide +kernel
theorem dX12_thing_0 : decode cX12_thing 0 = .ok (.iload_n 1, 1) := by decide +kernel
theorem dX12_thing_1 : decode cX12_thing 1 = .ok (.iconst 0, 1) := by decide +kernel
theorem dX12_thing_2 : decode cX12_thing 2 = .ok (.bipush 7, 2) := by decide +kernel
theorem dX12_thing_4 : decode cX12_thing 4 = .ok (.invokestatic 3, 3) := by decide +kernel
theorem dX12_thing_7 : decode cX12_thing 7 = .ok (.ifCond .eq 33, 3) := by decide +kernel
theorem dX12_thing_10 : decode cX12_thing 10 = .ok (.iload_n 2, 1) := by decide +kernel
theorem dX12_thing_11 : decode cX12_thing 11 = .ok (.iload 4, 2) := by decide +kernel
theorem dX12_thing_13 : decode cX12_thing 13 = .ok (.invokestatic 7, 3) := by decide +kernel
theorem dX12_thing_16 : decode cX12_thing 16 = .ok (.ifCond .eq 24, 3) := by decide +kernel
theorem dX12_thing_19 : decode cX12_thing 19 = .ok (.iload_n 3, 1) := by decide +kernel
theorem dX12_thing_20 : decode cX12_thing 20 = .ok (.iload 5, 2) := by decide +kernel
theorem dX12_thing_22 : decode cX12_thing 22 = .ok (.invokestatic 7, 3) := by decide +kernel
theorem dX12_thing_25 : decode cX12_thing 25 = .ok (.ifCond .eq 15, 3) := by decide +kernel
theorem dX12_thing_28 : decode cX12_thing 28 = .ok (.iload_n 2, 1) := by decide +kernel
theorem dX12_thing_29 : decode cX12_thing 29 = .ok (.iload_n 3, 1) := by decide +kernel
theorem dX12_thing_30 : decode cX12_thing 30 = .ok (.if_icmp .ge 10, 3) := by decide +kernel
theorem dX12_thing_33 : decode cX12_thing 33 = .ok (.iload 4, 2) := by decide +kernel
theorem dX12_thing_35 : decode cX12_thing 35 = .ok (.iload 5, 2) := by decide +kernel
theorem dX12_thing_37 : decode cX12_thing 37 = .ok (.if_icmp .lt 5, 3) := by decide +kernel
theorem dX12_thing_40 : decode cX12_thing 40 = .ok (.iconst 0, 1) := by decide +kernel
theorem dX12_thing_41 : decode cX12_thing 41 = .ok (.ireturn, 1) := by decide +kernel
theorem dX12_thing_42 : decode cX12_thing 42 = .ok (.aload_n 0, 1) := by decide +kernel
theorem dX12_thing_43 : decode cX12_thing 43 = .ok (.getfield 78, 3) := by decide +kernel
theorem dX12_thing_46 : decode cX12_thing 46 = .ok (.iload_n 1, 1) := by decide +kernel
theorem dX12_thing_47 : decode cX12_thing 47 = .ok (.iconst 1, 1) := by decide +kernel
theorem dX12_thing_48 : decode cX12_thing 48 = .ok (.bastore, 1) := by decide +kernel
theorem dX12_thing_49 : decode cX12_thing 49 = .ok (.aload_n 0, 1) := by decide +kernel
theorem dX12_thing_50 : decode cX12_thing 50 = .ok (.getfield 81, 3) := by decide +kernel
theorem dX12_thing_53 : decode cX12_thing 53 = .ok (.iload_n 1, 1) := by decide +kernel
theorem dX12_thing_54 : decode cX12_thing 54 = .ok (.iload_n 2, 1) := by decide +kernel
theorem dX12_thing_55 : decode cX12_thing 55 = .ok (.iastore, 1) := by decide +kernel
theorem dX12_thing_56 : decode cX12_thing 56 = .ok (.aload_n 0, 1) := by decide +kernel
theorem dX12_thing_57 : decode cX12_thing 57 = .ok (.getfield 84, 3) := by decide +kernel
theorem dX12_thing_60 : decode cX12_thing 60 = .ok (.iload_n 1, 1) := by decide +kernel
theorem dX12_thing_61 : decode cX12_thing 61 = .ok (.iload_n 3, 1) := by decide +kernel
theorem dX12_thing_62 : decode cX12_thing 62 = .ok (.iastore, 1) := by decide +kernel
theorem dX12_thing_63 : decode cX12_thing 63 = .ok (.aload_n 0, 1) := by decide +kernel
theorem dX12_thing_64 : decode cX12_thing 64 = .ok (.getfield 87, 3) := by decide +kernel
theorem dX12_thing_67 : decode cX12_thing 67 = .ok (.iload_n 1, 1) := by decide +kernel
theorem dX12_thing_68 : decode cX12_thing 68 = .ok (.iload 4, 2) := by decide +kernel
theorem dX12_thing_70 : decode cX12_thing 70 = .ok (.iastore, 1) := by decide +kernel
theorem dX12_thing_71 : decode cX12_thing 71 = .ok (.aload_n 0, 1) := by decide +kernel
theorem dX12_thing_72 : decode cX12_thing 72 = .ok (.getfield 90, 3) := by decide +kernel
theorem dX12_thing_75 : decode cX12_thing 75 = .ok (.iload_n 1, 1) := by decide +kernel
theorem dX12_thing_76 : decode cX12_thing 76 = .ok (.iload 5, 2) := by decide +kernel
theorem dX12_thing_78 : decode cX12_thing 78 = .ok (.iastore, 1) := by decide +kernel
theorem dX12_thing_79 : decode cX12_thing 79 = .ok (.iconst 1, 1) := by decide +kernel
theorem dX12_thing_80 : decode cX12_thing 80 = .ok (.ireturn, 1) := by decide +kernel
theorem dX12_isThe_0 : decode cX12_isThe 0 = .ok (.iload_n 1, 1) := by decide +kernel
theorem dX12_isThe_1 : decode cX12_isThe 1 = .ok (.iconst 0, 1) := by decide +kernel
theorem dX12_isThe_2 : decode cX12_isThe 2 = .ok (.bipush 7, 2) := by decide +kernel
theorem dX12_isThe_4 : decode cX12_isThe 4 = .ok (.invokestatic 3, 3) := by decide +kernel
theorem dX12_isThe_7 : decode cX12_isThe 7 = .ok (.ifCond .eq 16, 3) := by decide +kernel
theorem dX12_isThe_10 : decode cX12_isThe 10 = .ok (.aload_n 0, 1) := by decide +kernel
theorem dX12_isThe_11 : decode cX12_isThe 11 = .ok (.getfield 49, 3) := by decide +kernel
theorem dX12_isThe_14 : decode cX12_isThe 14 = .ok (.iload_n 1, 1) := by decide +kernel
theorem dX12_isThe_15 : decode cX12_isThe 15 = .ok (.baload, 1) := by decide +kernel
theorem dX12_isThe_16 : decode cX12_isThe 16 = .ok (.ifCond .eq 7, 3) := by decide +kernel
theorem dX12_isThe_19 : decode cX12_isThe 19 = .ok (.iconst 1, 1) := by decide +kernel
theorem dX12_isThe_20 : decode cX12_isThe 20 = .ok (.goto 4, 3) := by decide +kernel
theorem dX12_isThe_23 : decode cX12_isThe 23 = .ok (.iconst 0, 1) := by decide +kernel
theorem dX12_isThe_24 : decode cX12_isThe 24 = .ok (.ireturn, 1) := by decide +kernel
theorem dX12_hasWall_0 : decode cX12_hasWall 0 = .ok (.iload_n 1, 1) := by decide +kernel
theorem dX12_hasWall_1 : decode cX12_hasWall 1 = .ok (.iconst 0, 1) := by decide +kernel
theorem dX12_hasWall_2 : decode cX12_hasWall 2 = .ok (.bipush 11, 2) := by decide +kernel
theorem dX12_hasWall_4 : decode cX12_hasWall 4 = .ok (.invokestatic 3, 3) := by decide +kernel
theorem dX12_hasWall_7 : decode cX12_hasWall 7 = .ok (.ifCond .eq 16, 3) := by decide +kernel
theorem dX12_hasWall_10 : decode cX12_hasWall 10 = .ok (.aload_n 0, 1) := by decide +kernel
theorem dX12_hasWall_11 : decode cX12_hasWall 11 = .ok (.getfield 60, 3) := by decide +kernel
theorem dX12_hasWall_14 : decode cX12_hasWall 14 = .ok (.iload_n 1, 1) := by decide +kernel
theorem dX12_hasWall_15 : decode cX12_hasWall 15 = .ok (.baload, 1) := by decide +kernel
theorem dX12_hasWall_16 : decode cX12_hasWall 16 = .ok (.ifCond .eq 7, 3) := by decide +kernel
theorem dX12_hasWall_19 : decode cX12_hasWall 19 = .ok (.iconst 1, 1) := by decide +kernel
theorem dX12_hasWall_20 : decode cX12_hasWall 20 = .ok (.goto 4, 3) := by decide +kernel
theorem dX12_hasWall_23 : decode cX12_hasWall 23 = .ok (.iconst 0, 1) := by decide +kernel
theorem dX12_hasWall_24 : decode cX12_hasWall 24 = .ok (.ireturn, 1) := by decide +kernel
theorem dX12_gone_0 : decode cX12_gone 0 = .ok (.iload_n 1, 1) := by decide +kernel
theorem dX12_gone_1 : decode cX12_gone 1 = .ok (.ifCond .ne 20, 3) := by decide +kernel
theorem dX12_gone_4 : decode cX12_gone 4 = .ok (.aload_n 0, 1) := by decide +kernel
theorem dX12_gone_5 : decode cX12_gone 5 = .ok (.iload_n 2, 1) := by decide +kernel
theorem dX12_gone_6 : decode cX12_gone 6 = .ok (.invokevirtual 93, 3) := by decide +kernel
theorem dX12_gone_9 : decode cX12_gone 9 = .ok (.ifCond .eq 12, 3) := by decide +kernel
theorem dX12_gone_12 : decode cX12_gone 12 = .ok (.aload_n 0, 1) := by decide +kernel
theorem dX12_gone_13 : decode cX12_gone 13 = .ok (.getfield 49, 3) := by decide +kernel
theorem dX12_gone_16 : decode cX12_gone 16 = .ok (.iload_n 2, 1) := by decide +kernel
theorem dX12_gone_17 : decode cX12_gone 17 = .ok (.iconst 0, 1) := by decide +kernel
theorem dX12_gone_18 : decode cX12_gone 18 = .ok (.bastore, 1) := by decide +kernel
theorem dX12_gone_19 : decode cX12_gone 19 = .ok (.iconst 1, 1) := by decide +kernel
theorem dX12_gone_20 : decode cX12_gone 20 = .ok (.ireturn, 1) := by decide +kernel
theorem dX12_gone_21 : decode cX12_gone 21 = .ok (.iload_n 1, 1) := by decide +kernel
theorem dX12_gone_22 : decode cX12_gone 22 = .ok (.iconst 1, 1) := by decide +kernel
theorem dX12_gone_23 : decode cX12_gone 23 = .ok (.if_icmp .ne 20, 3) := by decide +kernel
theorem dX12_gone_26 : decode cX12_gone 26 = .ok (.aload_n 0, 1) := by decide +kernel
theorem dX12_gone_27 : decode cX12_gone 27 = .ok (.iload_n 2, 1) := by decide +kernel
theorem dX12_gone_28 : decode cX12_gone 28 = .ok (.invokevirtual 97, 3) := by decide +kernel
theorem dX12_gone_31 : decode cX12_gone 31 = .ok (.ifCond .eq 12, 3) := by decide +kernel
theorem dX12_gone_34 : decode cX12_gone 34 = .ok (.aload_n 0, 1) := by decide +kernel
theorem dX12_gone_35 : decode cX12_gone 35 = .ok (.getfield 60, 3) := by decide +kernel
theorem dX12_gone_38 : decode cX12_gone 38 = .ok (.iload_n 2, 1) := by decide +kernel
theorem dX12_gone_39 : decode cX12_gone 39 = .ok (.iconst 0, 1) := by decide +kernel
theorem dX12_gone_40 : decode cX12_gone 40 = .ok (.bastore, 1) := by decide +kernel
theorem dX12_gone_41 : decode cX12_gone 41 = .ok (.iconst 1, 1) := by decide +kernel
theorem dX12_gone_42 : decode cX12_gone 42 = .ok (.ireturn, 1) := by decide +kernel
theorem dX12_gone_43 : decode cX12_gone 43 = .ok (.iload_n 1, 1) := by decide +kernel
theorem dX12_gone_44 : decode cX12_gone 44 = .ok (.iconst 2, 1) := by decide +kernel
theorem dX12_gone_45 : decode cX12_gone 45 = .ok (.if_icmp .ne 31, 3) := by decide +kernel
theorem dX12_gone_48 : decode cX12_gone 48 = .ok (.iload_n 2, 1) := by decide +kernel
theorem dX12_gone_49 : decode cX12_gone 49 = .ok (.iconst 0, 1) := by decide +kernel
theorem dX12_gone_50 : decode cX12_gone 50 = .ok (.bipush 7, 2) := by decide +kernel
theorem dX12_gone_52 : decode cX12_gone 52 = .ok (.invokestatic 3, 3) := by decide +kernel
theorem dX12_gone_55 : decode cX12_gone 55 = .ok (.ifCond .eq 21, 3) := by decide +kernel
theorem dX12_gone_58 : decode cX12_gone 58 = .ok (.aload_n 0, 1) := by decide +kernel
theorem dX12_gone_59 : decode cX12_gone 59 = .ok (.getfield 78, 3) := by decide +kernel
theorem dX12_gone_62 : decode cX12_gone 62 = .ok (.iload_n 2, 1) := by decide +kernel
theorem dX12_gone_63 : decode cX12_gone 63 = .ok (.baload, 1) := by decide +kernel
theorem dX12_gone_64 : decode cX12_gone 64 = .ok (.ifCond .eq 12, 3) := by decide +kernel
theorem dX12_gone_67 : decode cX12_gone 67 = .ok (.aload_n 0, 1) := by decide +kernel
theorem dX12_gone_68 : decode cX12_gone 68 = .ok (.getfield 78, 3) := by decide +kernel
theorem dX12_gone_71 : decode cX12_gone 71 = .ok (.iload_n 2, 1) := by decide +kernel
theorem dX12_gone_72 : decode cX12_gone 72 = .ok (.iconst 0, 1) := by decide +kernel
theorem dX12_gone_73 : decode cX12_gone 73 = .ok (.bastore, 1) := by decide +kernel
theorem dX12_gone_74 : decode cX12_gone 74 = .ok (.iconst 1, 1) := by decide +kernel
theorem dX12_gone_75 : decode cX12_gone 75 = .ok (.ireturn, 1) := by decide +kernel
theorem dX12_gone_76 : decode cX12_gone 76 = .ok (.iconst 0, 1) := by decide +kernel
theorem dX12_gone_77 : decode cX12_gone 77 = .ok (.ireturn, 1) := by decide +kernel
theorem dX12_along_0 : decode cX12_along 0 = .ok (.lload_n 1, 1) := by decide +kernel
theorem dX12_along_1 : decode cX12_along 1 = .ok (.aload_n 0, 1) := by decide +kernel
theorem dX12_along_2 : decode cX12_along 2 = .ok (.getfield 15, 3) := by decide +kernel
theorem dX12_along_5 : decode cX12_along 5 = .ok (.i2l, 1) := by decide +kernel
theorem dX12_along_6 : decode cX12_along 6 = .ok (.lsub, 1) := by decide +kernel
theorem dX12_along_7 : decode cX12_along 7 = .ok (.aload_n 0, 1) := by decide +kernel
theorem dX12_along_8 : decode cX12_along 8 = .ok (.getfield 22, 3) := by decide +kernel
theorem dX12_along_11 : decode cX12_along 11 = .ok (.aload_n 0, 1) := by decide +kernel
theorem dX12_along_12 : decode cX12_along 12 = .ok (.getfield 15, 3) := by decide +kernel
theorem dX12_along_15 : decode cX12_along 15 = .ok (.isub, 1) := by decide +kernel
theorem dX12_along_16 : decode cX12_along 16 = .ok (.i2l, 1) := by decide +kernel
theorem dX12_along_17 : decode cX12_along 17 = .ok (.lmul, 1) := by decide +kernel
theorem dX12_along_18 : decode cX12_along 18 = .ok (.lload_n 3, 1) := by decide +kernel
theorem dX12_along_19 : decode cX12_along 19 = .ok (.aload_n 0, 1) := by decide +kernel
theorem dX12_along_20 : decode cX12_along 20 = .ok (.getfield 19, 3) := by decide +kernel
theorem dX12_along_23 : decode cX12_along 23 = .ok (.i2l, 1) := by decide +kernel
theorem dX12_along_24 : decode cX12_along 24 = .ok (.lsub, 1) := by decide +kernel
theorem dX12_along_25 : decode cX12_along 25 = .ok (.aload_n 0, 1) := by decide +kernel
theorem dX12_along_26 : decode cX12_along 26 = .ok (.getfield 25, 3) := by decide +kernel
theorem dX12_along_29 : decode cX12_along 29 = .ok (.aload_n 0, 1) := by decide +kernel
theorem dX12_along_30 : decode cX12_along 30 = .ok (.getfield 19, 3) := by decide +kernel
theorem dX12_along_33 : decode cX12_along 33 = .ok (.isub, 1) := by decide +kernel
theorem dX12_along_34 : decode cX12_along 34 = .ok (.i2l, 1) := by decide +kernel
theorem dX12_along_35 : decode cX12_along 35 = .ok (.lmul, 1) := by decide +kernel
theorem dX12_along_36 : decode cX12_along 36 = .ok (.ladd, 1) := by decide +kernel
theorem dX12_along_37 : decode cX12_along 37 = .ok (.lreturn, 1) := by decide +kernel
theorem dX12_off_0 : decode cX12_off 0 = .ok (.lload_n 1, 1) := by decide +kernel
theorem dX12_off_1 : decode cX12_off 1 = .ok (.aload_n 0, 1) := by decide +kernel
theorem dX12_off_2 : decode cX12_off 2 = .ok (.getfield 15, 3) := by decide +kernel
theorem dX12_off_5 : decode cX12_off 5 = .ok (.i2l, 1) := by decide +kernel
theorem dX12_off_6 : decode cX12_off 6 = .ok (.lsub, 1) := by decide +kernel
theorem dX12_off_7 : decode cX12_off 7 = .ok (.lneg, 1) := by decide +kernel
theorem dX12_off_8 : decode cX12_off 8 = .ok (.aload_n 0, 1) := by decide +kernel
theorem dX12_off_9 : decode cX12_off 9 = .ok (.getfield 25, 3) := by decide +kernel
theorem dX12_off_12 : decode cX12_off 12 = .ok (.aload_n 0, 1) := by decide +kernel
theorem dX12_off_13 : decode cX12_off 13 = .ok (.getfield 19, 3) := by decide +kernel
theorem dX12_off_16 : decode cX12_off 16 = .ok (.isub, 1) := by decide +kernel
theorem dX12_off_17 : decode cX12_off 17 = .ok (.i2l, 1) := by decide +kernel
theorem dX12_off_18 : decode cX12_off 18 = .ok (.lmul, 1) := by decide +kernel
theorem dX12_off_19 : decode cX12_off 19 = .ok (.lload_n 3, 1) := by decide +kernel
theorem dX12_off_20 : decode cX12_off 20 = .ok (.aload_n 0, 1) := by decide +kernel
theorem dX12_off_21 : decode cX12_off 21 = .ok (.getfield 19, 3) := by decide +kernel
theorem dX12_off_24 : decode cX12_off 24 = .ok (.i2l, 1) := by decide +kernel
theorem dX12_off_25 : decode cX12_off 25 = .ok (.lsub, 1) := by decide +kernel
theorem dX12_off_26 : decode cX12_off 26 = .ok (.aload_n 0, 1) := by decide +kernel
theorem dX12_off_27 : decode cX12_off 27 = .ok (.getfield 22, 3) := by decide +kernel
theorem dX12_off_30 : decode cX12_off 30 = .ok (.aload_n 0, 1) := by decide +kernel
theorem dX12_off_31 : decode cX12_off 31 = .ok (.getfield 15, 3) := by decide +kernel
theorem dX12_off_34 : decode cX12_off 34 = .ok (.isub, 1) := by decide +kernel
theorem dX12_off_35 : decode cX12_off 35 = .ok (.i2l, 1) := by decide +kernel
theorem dX12_off_36 : decode cX12_off 36 = .ok (.lmul, 1) := by decide +kernel
theorem dX12_off_37 : decode cX12_off 37 = .ok (.ladd, 1) := by decide +kernel
theorem dX12_off_38 : decode cX12_off 38 = .ok (.lreturn, 1) := by decide +kernel
theorem dX12_length_0 : decode cX12_length 0 = .ok (.aload_n 0, 1) := by decide +kernel
theorem dX12_length_1 : decode cX12_length 1 = .ok (.aload_n 0, 1) := by decide +kernel
theorem dX12_length_2 : decode cX12_length 2 = .ok (.getfield 22, 3) := by decide +kernel
theorem dX12_length_5 : decode cX12_length 5 = .ok (.i2l, 1) := by decide +kernel
theorem dX12_length_6 : decode cX12_length 6 = .ok (.aload_n 0, 1) := by decide +kernel
theorem dX12_length_7 : decode cX12_length 7 = .ok (.getfield 25, 3) := by decide +kernel
theorem dX12_length_10 : decode cX12_length 10 = .ok (.i2l, 1) := by decide +kernel
theorem dX12_length_11 : decode cX12_length 11 = .ok (.invokevirtual 100, 3) := by decide +kernel
theorem dX12_length_14 : decode cX12_length 14 = .ok (.lreturn, 1) := by decide +kernel
theorem dX12_isWide_0 : decode cX12_isWide 0 = .ok (.iload_n 0, 1) := by decide +kernel
theorem dX12_isWide_1 : decode cX12_isWide 1 = .ok (.sipush (-200), 3) := by decide +kernel
theorem dX12_isWide_4 : decode cX12_isWide 4 = .ok (.sipush 200, 3) := by decide +kernel
theorem dX12_isWide_7 : decode cX12_isWide 7 = .ok (.invokestatic 3, 3) := by decide +kernel
theorem dX12_isWide_10 : decode cX12_isWide 10 = .ok (.ifCond .eq 20, 3) := by decide +kernel
theorem dX12_isWide_13 : decode cX12_isWide 13 = .ok (.iload_n 1, 1) := by decide +kernel
theorem dX12_isWide_14 : decode cX12_isWide 14 = .ok (.sipush (-200), 3) := by decide +kernel
theorem dX12_isWide_17 : decode cX12_isWide 17 = .ok (.sipush 200, 3) := by decide +kernel
