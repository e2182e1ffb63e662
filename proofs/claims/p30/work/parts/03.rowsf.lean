theorem dX12_goesOn_18 : decode cX12_goesOn 18 = .ok (.aload_n 0, 1) := by decide +kernel
theorem dX12_goesOn_19 : decode cX12_goesOn 19 = .ok (.getfield 381, 3) := by decide +kernel
theorem dX12_goesOn_22 : decode cX12_goesOn 22 = .ok (.aload_n 0, 1) := by decide +kernel
theorem dX12_goesOn_23 : decode cX12_goesOn 23 = .ok (.getfield 432, 3) := by decide +kernel
theorem dX12_goesOn_26 : decode cX12_goesOn 26 = .ok (.iconst 1, 1) := by decide +kernel
theorem dX12_goesOn_27 : decode cX12_goesOn 27 = .ok (.isub, 1) := by decide +kernel
theorem dX12_goesOn_28 : decode cX12_goesOn 28 = .ok (.iaload, 1) := by decide +kernel
theorem dX12_goesOn_29 : decode cX12_goesOn 29 = .ok (.iastore, 1) := by decide +kernel
theorem dX12_goesOn_30 : decode cX12_goesOn 30 = .ok (.aload_n 0, 1) := by decide +kernel
theorem dX12_goesOn_31 : decode cX12_goesOn 31 = .ok (.getfield 384, 3) := by decide +kernel
theorem dX12_goesOn_34 : decode cX12_goesOn 34 = .ok (.aload_n 0, 1) := by decide +kernel
theorem dX12_goesOn_35 : decode cX12_goesOn 35 = .ok (.getfield 432, 3) := by decide +kernel
theorem dX12_goesOn_38 : decode cX12_goesOn 38 = .ok (.iconst 0, 1) := by decide +kernel
theorem dX12_goesOn_39 : decode cX12_goesOn 39 = .ok (.iastore, 1) := by decide +kernel
theorem dX12_goesOn_40 : decode cX12_goesOn 40 = .ok (.aload_n 0, 1) := by decide +kernel
theorem dX12_goesOn_41 : decode cX12_goesOn 41 = .ok (.getfield 387, 3) := by decide +kernel
theorem dX12_goesOn_44 : decode cX12_goesOn 44 = .ok (.aload_n 0, 1) := by decide +kernel
theorem dX12_goesOn_45 : decode cX12_goesOn 45 = .ok (.getfield 432, 3) := by decide +kernel
theorem dX12_goesOn_48 : decode cX12_goesOn 48 = .ok (.aload_n 0, 1) := by decide +kernel
theorem dX12_goesOn_49 : decode cX12_goesOn 49 = .ok (.getfield 387, 3) := by decide +kernel
theorem dX12_goesOn_52 : decode cX12_goesOn 52 = .ok (.aload_n 0, 1) := by decide +kernel
theorem dX12_goesOn_53 : decode cX12_goesOn 53 = .ok (.getfield 432, 3) := by decide +kernel
theorem dX12_goesOn_56 : decode cX12_goesOn 56 = .ok (.iconst 1, 1) := by decide +kernel
theorem dX12_goesOn_57 : decode cX12_goesOn 57 = .ok (.isub, 1) := by decide +kernel
theorem dX12_goesOn_58 : decode cX12_goesOn 58 = .ok (.iaload, 1) := by decide +kernel
theorem dX12_goesOn_59 : decode cX12_goesOn 59 = .ok (.iastore, 1) := by decide +kernel
theorem dX12_goesOn_60 : decode cX12_goesOn 60 = .ok (.return_, 1) := by decide +kernel
theorem dX12_holds_0 : decode cX12_holds 0 = .ok (.iload_n 1, 1) := by decide +kernel
theorem dX12_holds_1 : decode cX12_holds 1 = .ok (.iconst (-1), 1) := by decide +kernel
theorem dX12_holds_2 : decode cX12_holds 2 = .ok (.if_icmp .eq 13, 3) := by decide +kernel
theorem dX12_holds_5 : decode cX12_holds 5 = .ok (.aload_n 0, 1) := by decide +kernel
theorem dX12_holds_6 : decode cX12_holds 6 = .ok (.getfield 381, 3) := by decide +kernel
theorem dX12_holds_9 : decode cX12_holds 9 = .ok (.aload_n 0, 1) := by decide +kernel
theorem dX12_holds_10 : decode cX12_holds 10 = .ok (.getfield 432, 3) := by decide +kernel
theorem dX12_holds_13 : decode cX12_holds 13 = .ok (.iload_n 1, 1) := by decide +kernel
theorem dX12_holds_14 : decode cX12_holds 14 = .ok (.iastore, 1) := by decide +kernel
theorem dX12_holds_15 : decode cX12_holds 15 = .ok (.iload_n 2, 1) := by decide +kernel
theorem dX12_holds_16 : decode cX12_holds 16 = .ok (.iconst (-1), 1) := by decide +kernel
theorem dX12_holds_17 : decode cX12_holds 17 = .ok (.if_icmp .eq 13, 3) := by decide +kernel
theorem dX12_holds_20 : decode cX12_holds 20 = .ok (.aload_n 0, 1) := by decide +kernel
theorem dX12_holds_21 : decode cX12_holds 21 = .ok (.getfield 387, 3) := by decide +kernel
theorem dX12_holds_24 : decode cX12_holds 24 = .ok (.aload_n 0, 1) := by decide +kernel
theorem dX12_holds_25 : decode cX12_holds 25 = .ok (.getfield 432, 3) := by decide +kernel
theorem dX12_holds_28 : decode cX12_holds 28 = .ok (.iload_n 2, 1) := by decide +kernel
theorem dX12_holds_29 : decode cX12_holds 29 = .ok (.iastore, 1) := by decide +kernel
theorem dX12_holds_30 : decode cX12_holds 30 = .ok (.return_, 1) := by decide +kernel
theorem dX12_moves_0 : decode cX12_moves 0 = .ok (.aload_n 0, 1) := by decide +kernel
theorem dX12_moves_1 : decode cX12_moves 1 = .ok (.getfield 240, 3) := by decide +kernel
theorem dX12_moves_4 : decode cX12_moves 4 = .ok (.iload_n 1, 1) := by decide +kernel
theorem dX12_moves_5 : decode cX12_moves 5 = .ok (.iaload, 1) := by decide +kernel
theorem dX12_moves_6 : decode cX12_moves 6 = .ok (.istore_n 2, 1) := by decide +kernel
theorem dX12_moves_7 : decode cX12_moves 7 = .ok (.aload_n 0, 1) := by decide +kernel
theorem dX12_moves_8 : decode cX12_moves 8 = .ok (.aload_n 0, 1) := by decide +kernel
theorem dX12_moves_9 : decode cX12_moves 9 = .ok (.getfield 381, 3) := by decide +kernel
theorem dX12_moves_12 : decode cX12_moves 12 = .ok (.aload_n 0, 1) := by decide +kernel
theorem dX12_moves_13 : decode cX12_moves 13 = .ok (.getfield 432, 3) := by decide +kernel
theorem dX12_moves_16 : decode cX12_moves 16 = .ok (.iaload, 1) := by decide +kernel
theorem dX12_moves_17 : decode cX12_moves 17 = .ok (.putfield 435, 3) := by decide +kernel
theorem dX12_moves_20 : decode cX12_moves 20 = .ok (.iconst 1, 1) := by decide +kernel
theorem dX12_moves_21 : decode cX12_moves 21 = .ok (.istore_n 3, 1) := by decide +kernel
theorem dX12_moves_22 : decode cX12_moves 22 = .ok (.iload_n 3, 1) := by decide +kernel
theorem dX12_moves_23 : decode cX12_moves 23 = .ok (.iload_n 2, 1) := by decide +kernel
theorem dX12_moves_24 : decode cX12_moves 24 = .ok (.if_icmp .gt 44, 3) := by decide +kernel
theorem dX12_moves_27 : decode cX12_moves 27 = .ok (.aload_n 0, 1) := by decide +kernel
theorem dX12_moves_28 : decode cX12_moves 28 = .ok (.invokevirtual 438, 3) := by decide +kernel
theorem dX12_moves_31 : decode cX12_moves 31 = .ok (.aload_n 0, 1) := by decide +kernel
theorem dX12_moves_32 : decode cX12_moves 32 = .ok (.getfield 381, 3) := by decide +kernel
theorem dX12_moves_35 : decode cX12_moves 35 = .ok (.aload_n 0, 1) := by decide +kernel
theorem dX12_moves_36 : decode cX12_moves 36 = .ok (.getfield 432, 3) := by decide +kernel
theorem dX12_moves_39 : decode cX12_moves 39 = .ok (.aload_n 0, 1) := by decide +kernel
theorem dX12_moves_40 : decode cX12_moves 40 = .ok (.getfield 435, 3) := by decide +kernel
theorem dX12_moves_43 : decode cX12_moves 43 = .ok (.aload_n 0, 1) := by decide +kernel
theorem dX12_moves_44 : decode cX12_moves 44 = .ok (.getfield 237, 3) := by decide +kernel
theorem dX12_moves_47 : decode cX12_moves 47 = .ok (.iload_n 1, 1) := by decide +kernel
theorem dX12_moves_48 : decode cX12_moves 48 = .ok (.iaload, 1) := by decide +kernel
theorem dX12_moves_49 : decode cX12_moves 49 = .ok (.aload_n 0, 1) := by decide +kernel
theorem dX12_moves_50 : decode cX12_moves 50 = .ok (.getfield 435, 3) := by decide +kernel
theorem dX12_moves_53 : decode cX12_moves 53 = .ok (.isub, 1) := by decide +kernel
theorem dX12_moves_54 : decode cX12_moves 54 = .ok (.iload_n 3, 1) := by decide +kernel
theorem dX12_moves_55 : decode cX12_moves 55 = .ok (.imul, 1) := by decide +kernel
theorem dX12_moves_56 : decode cX12_moves 56 = .ok (.iload_n 2, 1) := by decide +kernel
theorem dX12_moves_57 : decode cX12_moves 57 = .ok (.invokestatic 441, 3) := by decide +kernel
theorem dX12_moves_60 : decode cX12_moves 60 = .ok (.iadd, 1) := by decide +kernel
theorem dX12_moves_61 : decode cX12_moves 61 = .ok (.iastore, 1) := by decide +kernel
theorem dX12_moves_62 : decode cX12_moves 62 = .ok (.iinc 3 1, 3) := by decide +kernel
theorem dX12_moves_65 : decode cX12_moves 65 = .ok (.goto (-43), 3) := by decide +kernel
theorem dX12_moves_68 : decode cX12_moves 68 = .ok (.return_, 1) := by decide +kernel
theorem dX12_rises_0 : decode cX12_rises 0 = .ok (.aload_n 0, 1) := by decide +kernel
theorem dX12_rises_1 : decode cX12_rises 1 = .ok (.getfield 240, 3) := by decide +kernel
theorem dX12_rises_4 : decode cX12_rises 4 = .ok (.iload_n 1, 1) := by decide +kernel
theorem dX12_rises_5 : decode cX12_rises 5 = .ok (.iaload, 1) := by decide +kernel
theorem dX12_rises_6 : decode cX12_rises 6 = .ok (.istore_n 2, 1) := by decide +kernel
theorem dX12_rises_7 : decode cX12_rises 7 = .ok (.iconst 1, 1) := by decide +kernel
theorem dX12_rises_8 : decode cX12_rises 8 = .ok (.istore_n 3, 1) := by decide +kernel
theorem dX12_rises_9 : decode cX12_rises 9 = .ok (.iload_n 3, 1) := by decide +kernel
theorem dX12_rises_10 : decode cX12_rises 10 = .ok (.iload_n 2, 1) := by decide +kernel
theorem dX12_rises_11 : decode cX12_rises 11 = .ok (.if_icmp .gt 40, 3) := by decide +kernel
theorem dX12_rises_14 : decode cX12_rises 14 = .ok (.aload_n 0, 1) := by decide +kernel
theorem dX12_rises_15 : decode cX12_rises 15 = .ok (.invokevirtual 438, 3) := by decide +kernel
theorem dX12_rises_18 : decode cX12_rises 18 = .ok (.aload_n 0, 1) := by decide +kernel
theorem dX12_rises_19 : decode cX12_rises 19 = .ok (.getfield 384, 3) := by decide +kernel
theorem dX12_rises_22 : decode cX12_rises 22 = .ok (.aload_n 0, 1) := by decide +kernel
theorem dX12_rises_23 : decode cX12_rises 23 = .ok (.getfield 432, 3) := by decide +kernel
theorem dX12_rises_26 : decode cX12_rises 26 = .ok (.iconst 4, 1) := by decide +kernel
theorem dX12_rises_27 : decode cX12_rises 27 = .ok (.aload_n 0, 1) := by decide +kernel
theorem dX12_rises_28 : decode cX12_rises 28 = .ok (.getfield 237, 3) := by decide +kernel
theorem dX12_rises_31 : decode cX12_rises 31 = .ok (.iload_n 1, 1) := by decide +kernel
theorem dX12_rises_32 : decode cX12_rises 32 = .ok (.iaload, 1) := by decide +kernel
theorem dX12_rises_33 : decode cX12_rises 33 = .ok (.imul, 1) := by decide +kernel
theorem dX12_rises_34 : decode cX12_rises 34 = .ok (.iload_n 3, 1) := by decide +kernel
theorem dX12_rises_35 : decode cX12_rises 35 = .ok (.imul, 1) := by decide +kernel
theorem dX12_rises_36 : decode cX12_rises 36 = .ok (.iload_n 2, 1) := by decide +kernel
theorem dX12_rises_37 : decode cX12_rises 37 = .ok (.iload_n 3, 1) := by decide +kernel
theorem dX12_rises_38 : decode cX12_rises 38 = .ok (.isub, 1) := by decide +kernel
theorem dX12_rises_39 : decode cX12_rises 39 = .ok (.imul, 1) := by decide +kernel
theorem dX12_rises_40 : decode cX12_rises 40 = .ok (.iload_n 2, 1) := by decide +kernel
theorem dX12_rises_41 : decode cX12_rises 41 = .ok (.iload_n 2, 1) := by decide +kernel
theorem dX12_rises_42 : decode cX12_rises 42 = .ok (.imul, 1) := by decide +kernel
theorem dX12_rises_43 : decode cX12_rises 43 = .ok (.idiv, 1) := by decide +kernel
theorem dX12_rises_44 : decode cX12_rises 44 = .ok (.iastore, 1) := by decide +kernel
theorem dX12_rises_45 : decode cX12_rises 45 = .ok (.iinc 3 1, 3) := by decide +kernel
theorem dX12_rises_48 : decode cX12_rises 48 = .ok (.goto (-39), 3) := by decide +kernel
theorem dX12_rises_51 : decode cX12_rises 51 = .ok (.return_, 1) := by decide +kernel
theorem dX12_enters_0 : decode cX12_enters 0 = .ok (.iload_n 2, 1) := by decide +kernel
theorem dX12_enters_1 : decode cX12_enters 1 = .ok (.ifCond .ne 4, 3) := by decide +kernel
theorem dX12_enters_4 : decode cX12_enters 4 = .ok (.return_, 1) := by decide +kernel
theorem dX12_enters_5 : decode cX12_enters 5 = .ok (.aload_n 0, 1) := by decide +kernel
theorem dX12_enters_6 : decode cX12_enters 6 = .ok (.getfield 280, 3) := by decide +kernel
theorem dX12_enters_9 : decode cX12_enters 9 = .ok (.iload_n 1, 1) := by decide +kernel
theorem dX12_enters_10 : decode cX12_enters 10 = .ok (.iaload, 1) := by decide +kernel
theorem dX12_enters_11 : decode cX12_enters 11 = .ok (.ifCond .ne 20, 3) := by decide +kernel
theorem dX12_enters_14 : decode cX12_enters 14 = .ok (.aload_n 0, 1) := by decide +kernel
theorem dX12_enters_15 : decode cX12_enters 15 = .ok (.aload_n 0, 1) := by decide +kernel
theorem dX12_enters_16 : decode cX12_enters 16 = .ok (.getfield 283, 3) := by decide +kernel
theorem dX12_enters_19 : decode cX12_enters 19 = .ok (.iload_n 1, 1) := by decide +kernel
theorem dX12_enters_20 : decode cX12_enters 20 = .ok (.iaload, 1) := by decide +kernel
theorem dX12_enters_21 : decode cX12_enters 21 = .ok (.aload_n 0, 1) := by decide +kernel
theorem dX12_enters_22 : decode cX12_enters 22 = .ok (.getfield 286, 3) := by decide +kernel
theorem dX12_enters_25 : decode cX12_enters 25 = .ok (.iload_n 1, 1) := by decide +kernel
theorem dX12_enters_26 : decode cX12_enters 26 = .ok (.iaload, 1) := by decide +kernel
theorem dX12_enters_27 : decode cX12_enters 27 = .ok (.invokevirtual 444, 3) := by decide +kernel
theorem dX12_enters_30 : decode cX12_enters 30 = .ok (.return_, 1) := by decide +kernel
theorem dX12_enters_31 : decode cX12_enters 31 = .ok (.aload_n 0, 1) := by decide +kernel
theorem dX12_enters_32 : decode cX12_enters 32 = .ok (.getfield 390, 3) := by decide +kernel
theorem dX12_enters_35 : decode cX12_enters 35 = .ok (.aload_n 0, 1) := by decide +kernel
theorem dX12_enters_36 : decode cX12_enters 36 = .ok (.getfield 447, 3) := by decide +kernel
theorem dX12_enters_39 : decode cX12_enters 39 = .ok (.iload_n 1, 1) := by decide +kernel
theorem dX12_enters_40 : decode cX12_enters 40 = .ok (.iconst 1, 1) := by decide +kernel
theorem dX12_enters_41 : decode cX12_enters 41 = .ok (.iadd, 1) := by decide +kernel
theorem dX12_enters_42 : decode cX12_enters 42 = .ok (.iastore, 1) := by decide +kernel
theorem dX12_enters_43 : decode cX12_enters 43 = .ok (.aload_n 0, 1) := by decide +kernel
theorem dX12_enters_44 : decode cX12_enters 44 = .ok (.getfield 393, 3) := by decide +kernel
theorem dX12_enters_47 : decode cX12_enters 47 = .ok (.aload_n 0, 1) := by decide +kernel
theorem dX12_enters_48 : decode cX12_enters 48 = .ok (.getfield 447, 3) := by decide +kernel
theorem dX12_enters_51 : decode cX12_enters 51 = .ok (.aload_n 0, 1) := by decide +kernel
theorem dX12_enters_52 : decode cX12_enters 52 = .ok (.getfield 277, 3) := by decide +kernel
theorem dX12_enters_55 : decode cX12_enters 55 = .ok (.iload_n 1, 1) := by decide +kernel
theorem dX12_enters_56 : decode cX12_enters 56 = .ok (.iaload, 1) := by decide +kernel
theorem dX12_enters_57 : decode cX12_enters 57 = .ok (.iastore, 1) := by decide +kernel
theorem dX12_enters_58 : decode cX12_enters 58 = .ok (.aload_n 0, 1) := by decide +kernel
theorem dX12_enters_59 : decode cX12_enters 59 = .ok (.getfield 396, 3) := by decide +kernel
theorem dX12_enters_62 : decode cX12_enters 62 = .ok (.aload_n 0, 1) := by decide +kernel
theorem dX12_enters_63 : decode cX12_enters 63 = .ok (.getfield 447, 3) := by decide +kernel
theorem dX12_enters_66 : decode cX12_enters 66 = .ok (.iload_n 2, 1) := by decide +kernel
theorem dX12_enters_67 : decode cX12_enters 67 = .ok (.iastore, 1) := by decide +kernel
theorem dX12_enters_68 : decode cX12_enters 68 = .ok (.aload_n 0, 1) := by decide +kernel
theorem dX12_enters_69 : decode cX12_enters 69 = .ok (.getfield 399, 3) := by decide +kernel
theorem dX12_enters_72 : decode cX12_enters 72 = .ok (.aload_n 0, 1) := by decide +kernel
theorem dX12_enters_73 : decode cX12_enters 73 = .ok (.getfield 447, 3) := by decide +kernel
theorem dX12_enters_76 : decode cX12_enters 76 = .ok (.iload_n 3, 1) := by decide +kernel
theorem dX12_enters_77 : decode cX12_enters 77 = .ok (.iastore, 1) := by decide +kernel
theorem dX12_enters_78 : decode cX12_enters 78 = .ok (.aload_n 0, 1) := by decide +kernel
theorem dX12_enters_79 : decode cX12_enters 79 = .ok (.dup, 1) := by decide +kernel
theorem dX12_enters_80 : decode cX12_enters 80 = .ok (.getfield 447, 3) := by decide +kernel
theorem dX12_enters_83 : decode cX12_enters 83 = .ok (.iconst 1, 1) := by decide +kernel
theorem dX12_enters_84 : decode cX12_enters 84 = .ok (.iadd, 1) := by decide +kernel
theorem dX12_enters_85 : decode cX12_enters 85 = .ok (.putfield 447, 3) := by decide +kernel
theorem dX12_enters_88 : decode cX12_enters 88 = .ok (.return_, 1) := by decide +kernel
theorem dX12_carries_0 : decode cX12_carries 0 = .ok (.aload_n 0, 1) := by decide +kernel
theorem dX12_carries_1 : decode cX12_carries 1 = .ok (.getfield 447, 3) := by decide +kernel
theorem dX12_carries_4 : decode cX12_carries 4 = .ok (.istore_n 2, 1) := by decide +kernel
theorem dX12_carries_5 : decode cX12_carries 5 = .ok (.aload_n 0, 1) := by decide +kernel
theorem dX12_carries_6 : decode cX12_carries 6 = .ok (.getfield 231, 3) := by decide +kernel
theorem dX12_carries_9 : decode cX12_carries 9 = .ok (.iload_n 1, 1) := by decide +kernel
theorem dX12_carries_10 : decode cX12_carries 10 = .ok (.iaload, 1) := by decide +kernel
theorem dX12_carries_11 : decode cX12_carries 11 = .ok (.bipush 6, 2) := by decide +kernel
theorem dX12_carries_13 : decode cX12_carries 13 = .ok (.if_icmp .eq 14, 3) := by decide +kernel
theorem dX12_carries_16 : decode cX12_carries 16 = .ok (.aload_n 0, 1) := by decide +kernel
theorem dX12_carries_17 : decode cX12_carries 17 = .ok (.getfield 231, 3) := by decide +kernel
theorem dX12_carries_20 : decode cX12_carries 20 = .ok (.iload_n 1, 1) := by decide +kernel
theorem dX12_carries_21 : decode cX12_carries 21 = .ok (.iaload, 1) := by decide +kernel
theorem dX12_carries_22 : decode cX12_carries 22 = .ok (.bipush 7, 2) := by decide +kernel
theorem dX12_carries_24 : decode cX12_carries 24 = .ok (.if_icmp .ne 12, 3) := by decide +kernel
theorem dX12_carries_27 : decode cX12_carries 27 = .ok (.aload_n 0, 1) := by decide +kernel
theorem dX12_carries_28 : decode cX12_carries 28 = .ok (.getfield 277, 3) := by decide +kernel
theorem dX12_carries_31 : decode cX12_carries 31 = .ok (.iload_n 1, 1) := by decide +kernel
theorem dX12_carries_32 : decode cX12_carries 32 = .ok (.iaload, 1) := by decide +kernel
theorem dX12_carries_33 : decode cX12_carries 33 = .ok (.goto 6, 3) := by decide +kernel
theorem dX12_carries_36 : decode cX12_carries 36 = .ok (.iload_n 1, 1) := by decide +kernel
theorem dX12_carries_37 : decode cX12_carries 37 = .ok (.iconst 1, 1) := by decide +kernel
theorem dX12_carries_38 : decode cX12_carries 38 = .ok (.iadd, 1) := by decide +kernel
theorem dX12_carries_39 : decode cX12_carries 39 = .ok (.istore_n 3, 1) := by decide +kernel
theorem dX12_carries_40 : decode cX12_carries 40 = .ok (.aload_n 0, 1) := by decide +kernel
theorem dX12_carries_41 : decode cX12_carries 41 = .ok (.getfield 231, 3) := by decide +kernel
theorem dX12_carries_44 : decode cX12_carries 44 = .ok (.iload_n 1, 1) := by decide +kernel
theorem dX12_carries_45 : decode cX12_carries 45 = .ok (.iaload, 1) := by decide +kernel
theorem dX12_carries_46 : decode cX12_carries 46 = .ok (.tableswitch 152 1 8 #[46, 74, 90, 82, 60, 117, 152, 132], 46) := by decide +kernel
theorem dX12_carries_92 : decode cX12_carries 92 = .ok (.aload_n 0, 1) := by decide +kernel
theorem dX12_carries_93 : decode cX12_carries 93 = .ok (.aload_n 0, 1) := by decide +kernel
theorem dX12_carries_94 : decode cX12_carries 94 = .ok (.getfield 237, 3) := by decide +kernel
theorem dX12_carries_97 : decode cX12_carries 97 = .ok (.iload_n 1, 1) := by decide +kernel
theorem dX12_carries_98 : decode cX12_carries 98 = .ok (.iaload, 1) := by decide +kernel
theorem dX12_carries_99 : decode cX12_carries 99 = .ok (.iconst (-1), 1) := by decide +kernel
theorem dX12_carries_100 : decode cX12_carries 100 = .ok (.invokevirtual 444, 3) := by decide +kernel
theorem dX12_carries_103 : decode cX12_carries 103 = .ok (.goto 95, 3) := by decide +kernel
theorem dX12_carries_106 : decode cX12_carries 106 = .ok (.aload_n 0, 1) := by decide +kernel
theorem dX12_carries_107 : decode cX12_carries 107 = .ok (.iconst (-1), 1) := by decide +kernel
theorem dX12_carries_108 : decode cX12_carries 108 = .ok (.aload_n 0, 1) := by decide +kernel
theorem dX12_carries_109 : decode cX12_carries 109 = .ok (.getfield 237, 3) := by decide +kernel
theorem dX12_carries_112 : decode cX12_carries 112 = .ok (.iload_n 1, 1) := by decide +kernel
theorem dX12_carries_113 : decode cX12_carries 113 = .ok (.iaload, 1) := by decide +kernel
theorem dX12_carries_114 : decode cX12_carries 114 = .ok (.invokevirtual 444, 3) := by decide +kernel
theorem dX12_carries_117 : decode cX12_carries 117 = .ok (.goto 81, 3) := by decide +kernel
theorem dX12_carries_120 : decode cX12_carries 120 = .ok (.aload_n 0, 1) := by decide +kernel
theorem dX12_carries_121 : decode cX12_carries 121 = .ok (.iload_n 1, 1) := by decide +kernel
theorem dX12_carries_122 : decode cX12_carries 122 = .ok (.invokevirtual 450, 3) := by decide +kernel
theorem dX12_carries_125 : decode cX12_carries 125 = .ok (.goto 73, 3) := by decide +kernel
theorem dX12_carries_128 : decode cX12_carries 128 = .ok (.aload_n 0, 1) := by decide +kernel
theorem dX12_carries_129 : decode cX12_carries 129 = .ok (.iload_n 1, 1) := by decide +kernel
theorem dX12_carries_130 : decode cX12_carries 130 = .ok (.invokevirtual 453, 3) := by decide +kernel
theorem dX12_carries_133 : decode cX12_carries 133 = .ok (.goto 65, 3) := by decide +kernel
theorem dX12_carries_136 : decode cX12_carries 136 = .ok (.iconst 0, 1) := by decide +kernel
theorem dX12_carries_137 : decode cX12_carries 137 = .ok (.istore 4, 2) := by decide +kernel
theorem dX12_carries_139 : decode cX12_carries 139 = .ok (.iload 4, 2) := by decide +kernel
theorem dX12_carries_141 : decode cX12_carries 141 = .ok (.aload_n 0, 1) := by decide +kernel
theorem dX12_carries_142 : decode cX12_carries 142 = .ok (.getfield 237, 3) := by decide +kernel
theorem dX12_carries_145 : decode cX12_carries 145 = .ok (.iload_n 1, 1) := by decide +kernel
theorem dX12_carries_146 : decode cX12_carries 146 = .ok (.iaload, 1) := by decide +kernel
theorem dX12_carries_147 : decode cX12_carries 147 = .ok (.if_icmp .ge 13, 3) := by decide +kernel
theorem dX12_carries_150 : decode cX12_carries 150 = .ok (.aload_n 0, 1) := by decide +kernel
theorem dX12_carries_151 : decode cX12_carries 151 = .ok (.invokevirtual 438, 3) := by decide +kernel
theorem dX12_carries_154 : decode cX12_carries 154 = .ok (.iinc 4 1, 3) := by decide +kernel
theorem dX12_carries_157 : decode cX12_carries 157 = .ok (.goto (-18), 3) := by decide +kernel
theorem dX12_carries_160 : decode cX12_carries 160 = .ok (.goto 38, 3) := by decide +kernel
theorem dX12_carries_163 : decode cX12_carries 163 = .ok (.aload_n 0, 1) := by decide +kernel
theorem dX12_carries_164 : decode cX12_carries 164 = .ok (.iload_n 1, 1) := by decide +kernel
theorem dX12_carries_165 : decode cX12_carries 165 = .ok (.aload_n 0, 1) := by decide +kernel
theorem dX12_carries_166 : decode cX12_carries 166 = .ok (.getfield 237, 3) := by decide +kernel
theorem dX12_carries_169 : decode cX12_carries 169 = .ok (.iload_n 1, 1) := by decide +kernel
theorem dX12_carries_170 : decode cX12_carries 170 = .ok (.iaload, 1) := by decide +kernel
theorem dX12_carries_171 : decode cX12_carries 171 = .ok (.iload_n 3, 1) := by decide +kernel
theorem dX12_carries_172 : decode cX12_carries 172 = .ok (.invokevirtual 456, 3) := by decide +kernel
theorem dX12_carries_175 : decode cX12_carries 175 = .ok (.goto 23, 3) := by decide +kernel
theorem dX12_carries_178 : decode cX12_carries 178 = .ok (.aload_n 0, 1) := by decide +kernel
theorem dX12_carries_179 : decode cX12_carries 179 = .ok (.aload_n 0, 1) := by decide +kernel
theorem dX12_carries_180 : decode cX12_carries 180 = .ok (.getfield 289, 3) := by decide +kernel
theorem dX12_carries_183 : decode cX12_carries 183 = .ok (.aload_n 0, 1) := by decide +kernel
theorem dX12_carries_184 : decode cX12_carries 184 = .ok (.getfield 237, 3) := by decide +kernel
theorem dX12_carries_187 : decode cX12_carries 187 = .ok (.iload_n 1, 1) := by decide +kernel
theorem dX12_carries_188 : decode cX12_carries 188 = .ok (.iaload, 1) := by decide +kernel
theorem dX12_carries_189 : decode cX12_carries 189 = .ok (.iaload, 1) := by decide +kernel
theorem dX12_carries_190 : decode cX12_carries 190 = .ok (.iconst 1, 1) := by decide +kernel
theorem dX12_carries_191 : decode cX12_carries 191 = .ok (.iload_n 3, 1) := by decide +kernel
theorem dX12_carries_192 : decode cX12_carries 192 = .ok (.invokevirtual 456, 3) := by decide +kernel
theorem dX12_carries_195 : decode cX12_carries 195 = .ok (.goto 3, 3) := by decide +kernel
theorem dX12_carries_198 : decode cX12_carries 198 = .ok (.aload_n 0, 1) := by decide +kernel
theorem dX12_carries_199 : decode cX12_carries 199 = .ok (.getfield 447, 3) := by decide +kernel
theorem dX12_carries_202 : decode cX12_carries 202 = .ok (.iload_n 2, 1) := by decide +kernel
theorem dX12_carries_203 : decode cX12_carries 203 = .ok (.if_icmp .le 12, 3) := by decide +kernel
theorem dX12_carries_206 : decode cX12_carries 206 = .ok (.aload_n 0, 1) := by decide +kernel
theorem dX12_carries_207 : decode cX12_carries 207 = .ok (.getfield 390, 3) := by decide +kernel
theorem dX12_carries_210 : decode cX12_carries 210 = .ok (.iload_n 2, 1) := by decide +kernel
theorem dX12_carries_211 : decode cX12_carries 211 = .ok (.iaload, 1) := by decide +kernel
theorem dX12_carries_212 : decode cX12_carries 212 = .ok (.goto 4, 3) := by decide +kernel
theorem dX12_carries_215 : decode cX12_carries 215 = .ok (.iload_n 3, 1) := by decide +kernel
theorem dX12_carries_216 : decode cX12_carries 216 = .ok (.ireturn, 1) := by decide +kernel
theorem dX12_walks_0 : decode cX12_walks 0 = .ok (.aload_n 0, 1) := by decide +kernel
theorem dX12_walks_1 : decode cX12_walks 1 = .ok (.iconst 0, 1) := by decide +kernel
theorem dX12_walks_2 : decode cX12_walks 2 = .ok (.putfield 432, 3) := by decide +kernel
theorem dX12_walks_5 : decode cX12_walks 5 = .ok (.aload_n 0, 1) := by decide +kernel
theorem dX12_walks_6 : decode cX12_walks 6 = .ok (.getfield 381, 3) := by decide +kernel
theorem dX12_walks_9 : decode cX12_walks 9 = .ok (.iconst 0, 1) := by decide +kernel
theorem dX12_walks_10 : decode cX12_walks 10 = .ok (.iconst 0, 1) := by decide +kernel
theorem dX12_walks_11 : decode cX12_walks 11 = .ok (.iastore, 1) := by decide +kernel
theorem dX12_walks_12 : decode cX12_walks 12 = .ok (.aload_n 0, 1) := by decide +kernel
theorem dX12_walks_13 : decode cX12_walks 13 = .ok (.getfield 384, 3) := by decide +kernel
theorem dX12_walks_16 : decode cX12_walks 16 = .ok (.iconst 0, 1) := by decide +kernel
theorem dX12_walks_17 : decode cX12_walks 17 = .ok (.iconst 0, 1) := by decide +kernel
theorem dX12_walks_18 : decode cX12_walks 18 = .ok (.iastore, 1) := by decide +kernel
theorem dX12_walks_19 : decode cX12_walks 19 = .ok (.aload_n 0, 1) := by decide +kernel
theorem dX12_walks_20 : decode cX12_walks 20 = .ok (.getfield 387, 3) := by decide +kernel
theorem dX12_walks_23 : decode cX12_walks 23 = .ok (.iconst 0, 1) := by decide +kernel
theorem dX12_walks_24 : decode cX12_walks 24 = .ok (.iconst 1, 1) := by decide +kernel
theorem dX12_walks_25 : decode cX12_walks 25 = .ok (.iastore, 1) := by decide +kernel
theorem dX12_walks_26 : decode cX12_walks 26 = .ok (.aload_n 0, 1) := by decide +kernel
theorem dX12_walks_27 : decode cX12_walks 27 = .ok (.iconst 0, 1) := by decide +kernel
theorem dX12_walks_28 : decode cX12_walks 28 = .ok (.putfield 447, 3) := by decide +kernel
theorem dX12_walks_31 : decode cX12_walks 31 = .ok (.iconst 0, 1) := by decide +kernel
theorem dX12_walks_32 : decode cX12_walks 32 = .ok (.istore_n 1, 1) := by decide +kernel
theorem dX12_walks_33 : decode cX12_walks 33 = .ok (.iload_n 1, 1) := by decide +kernel
theorem dX12_walks_34 : decode cX12_walks 34 = .ok (.aload_n 0, 1) := by decide +kernel
theorem dX12_walks_35 : decode cX12_walks 35 = .ok (.getfield 234, 3) := by decide +kernel
theorem dX12_walks_38 : decode cX12_walks 38 = .ok (.if_icmp .lt 10, 3) := by decide +kernel
theorem dX12_walks_41 : decode cX12_walks 41 = .ok (.aload_n 0, 1) := by decide +kernel
theorem dX12_walks_42 : decode cX12_walks 42 = .ok (.getfield 447, 3) := by decide +kernel
theorem dX12_walks_45 : decode cX12_walks 45 = .ok (.ifCond .le 101, 3) := by decide +kernel
theorem dX12_walks_48 : decode cX12_walks 48 = .ok (.aload_n 0, 1) := by decide +kernel
theorem dX12_walks_49 : decode cX12_walks 49 = .ok (.getfield 447, 3) := by decide +kernel
theorem dX12_walks_52 : decode cX12_walks 52 = .ok (.ifCond .le 85, 3) := by decide +kernel
theorem dX12_walks_55 : decode cX12_walks 55 = .ok (.iload_n 1, 1) := by decide +kernel
theorem dX12_walks_56 : decode cX12_walks 56 = .ok (.aload_n 0, 1) := by decide +kernel
theorem dX12_walks_57 : decode cX12_walks 57 = .ok (.getfield 393, 3) := by decide +kernel
theorem dX12_walks_60 : decode cX12_walks 60 = .ok (.aload_n 0, 1) := by decide +kernel
theorem dX12_walks_61 : decode cX12_walks 61 = .ok (.getfield 447, 3) := by decide +kernel
theorem dX12_walks_64 : decode cX12_walks 64 = .ok (.iconst 1, 1) := by decide +kernel
theorem dX12_walks_65 : decode cX12_walks 65 = .ok (.isub, 1) := by decide +kernel
theorem dX12_walks_66 : decode cX12_walks 66 = .ok (.iaload, 1) := by decide +kernel
theorem dX12_walks_67 : decode cX12_walks 67 = .ok (.if_icmp .ne 70, 3) := by decide +kernel
theorem dX12_walks_70 : decode cX12_walks 70 = .ok (.aload_n 0, 1) := by decide +kernel
theorem dX12_walks_71 : decode cX12_walks 71 = .ok (.getfield 396, 3) := by decide +kernel
theorem dX12_walks_74 : decode cX12_walks 74 = .ok (.aload_n 0, 1) := by decide +kernel
theorem dX12_walks_75 : decode cX12_walks 75 = .ok (.getfield 447, 3) := by decide +kernel
theorem dX12_walks_78 : decode cX12_walks 78 = .ok (.iconst 1, 1) := by decide +kernel
theorem dX12_walks_79 : decode cX12_walks 79 = .ok (.isub, 1) := by decide +kernel
theorem dX12_walks_80 : decode cX12_walks 80 = .ok (.dup2, 1) := by decide +kernel
theorem dX12_walks_81 : decode cX12_walks 81 = .ok (.iaload, 1) := by decide +kernel
theorem dX12_walks_82 : decode cX12_walks 82 = .ok (.iconst 1, 1) := by decide +kernel
theorem dX12_walks_83 : decode cX12_walks 83 = .ok (.isub, 1) := by decide +kernel
theorem dX12_walks_84 : decode cX12_walks 84 = .ok (.iastore, 1) := by decide +kernel
theorem dX12_walks_85 : decode cX12_walks 85 = .ok (.aload_n 0, 1) := by decide +kernel
theorem dX12_walks_86 : decode cX12_walks 86 = .ok (.getfield 396, 3) := by decide +kernel
theorem dX12_walks_89 : decode cX12_walks 89 = .ok (.aload_n 0, 1) := by decide +kernel
theorem dX12_walks_90 : decode cX12_walks 90 = .ok (.getfield 447, 3) := by decide +kernel
theorem dX12_walks_93 : decode cX12_walks 93 = .ok (.iconst 1, 1) := by decide +kernel
theorem dX12_walks_94 : decode cX12_walks 94 = .ok (.isub, 1) := by decide +kernel
theorem dX12_walks_95 : decode cX12_walks 95 = .ok (.iaload, 1) := by decide +kernel
theorem dX12_walks_96 : decode cX12_walks 96 = .ok (.ifCond .le 18, 3) := by decide +kernel
theorem dX12_walks_99 : decode cX12_walks 99 = .ok (.aload_n 0, 1) := by decide +kernel
theorem dX12_walks_100 : decode cX12_walks 100 = .ok (.getfield 390, 3) := by decide +kernel
theorem dX12_walks_103 : decode cX12_walks 103 = .ok (.aload_n 0, 1) := by decide +kernel
theorem dX12_walks_104 : decode cX12_walks 104 = .ok (.getfield 447, 3) := by decide +kernel
theorem dX12_walks_107 : decode cX12_walks 107 = .ok (.iconst 1, 1) := by decide +kernel
theorem dX12_walks_108 : decode cX12_walks 108 = .ok (.isub, 1) := by decide +kernel
theorem dX12_walks_109 : decode cX12_walks 109 = .ok (.iaload, 1) := by decide +kernel
theorem dX12_walks_110 : decode cX12_walks 110 = .ok (.istore_n 1, 1) := by decide +kernel
theorem dX12_walks_111 : decode cX12_walks 111 = .ok (.goto (-78), 3) := by decide +kernel
theorem dX12_walks_114 : decode cX12_walks 114 = .ok (.aload_n 0, 1) := by decide +kernel
theorem dX12_walks_115 : decode cX12_walks 115 = .ok (.dup, 1) := by decide +kernel
theorem dX12_walks_116 : decode cX12_walks 116 = .ok (.getfield 447, 3) := by decide +kernel
theorem dX12_walks_119 : decode cX12_walks 119 = .ok (.iconst 1, 1) := by decide +kernel
theorem dX12_walks_120 : decode cX12_walks 120 = .ok (.isub, 1) := by decide +kernel
theorem dX12_walks_121 : decode cX12_walks 121 = .ok (.putfield 447, 3) := by decide +kernel
theorem dX12_walks_124 : decode cX12_walks 124 = .ok (.aload_n 0, 1) := by decide +kernel
theorem dX12_walks_125 : decode cX12_walks 125 = .ok (.getfield 399, 3) := by decide +kernel
theorem dX12_walks_128 : decode cX12_walks 128 = .ok (.aload_n 0, 1) := by decide +kernel
theorem dX12_walks_129 : decode cX12_walks 129 = .ok (.getfield 447, 3) := by decide +kernel
theorem dX12_walks_132 : decode cX12_walks 132 = .ok (.iaload, 1) := by decide +kernel
theorem dX12_walks_133 : decode cX12_walks 133 = .ok (.istore_n 1, 1) := by decide +kernel
theorem dX12_walks_134 : decode cX12_walks 134 = .ok (.goto (-101), 3) := by decide +kernel
theorem dX12_walks_137 : decode cX12_walks 137 = .ok (.aload_n 0, 1) := by decide +kernel
theorem dX12_walks_138 : decode cX12_walks 138 = .ok (.iload_n 1, 1) := by decide +kernel
theorem dX12_walks_139 : decode cX12_walks 139 = .ok (.invokevirtual 460, 3) := by decide +kernel
theorem dX12_walks_142 : decode cX12_walks 142 = .ok (.istore_n 1, 1) := by decide +kernel
theorem dX12_walks_143 : decode cX12_walks 143 = .ok (.goto (-110), 3) := by decide +kernel
theorem dX12_walks_146 : decode cX12_walks 146 = .ok (.aload_n 0, 1) := by decide +kernel
theorem dX12_walks_147 : decode cX12_walks 147 = .ok (.aload_n 0, 1) := by decide +kernel
theorem dX12_walks_148 : decode cX12_walks 148 = .ok (.getfield 432, 3) := by decide +kernel
theorem dX12_walks_151 : decode cX12_walks 151 = .ok (.putfield 464, 3) := by decide +kernel
theorem dX12_walks_154 : decode cX12_walks 154 = .ok (.return_, 1) := by decide +kernel
theorem dX12_walk_0 : decode cX12_walk 0 = .ok (.aload_n 0, 1) := by decide +kernel
theorem dX12_walk_1 : decode cX12_walk 1 = .ok (.aload_n 0, 1) := by decide +kernel
theorem dX12_walk_2 : decode cX12_walk 2 = .ok (.getfield 186, 3) := by decide +kernel
theorem dX12_walk_5 : decode cX12_walk 5 = .ok (.putfield 201, 3) := by decide +kernel
theorem dX12_walk_8 : decode cX12_walk 8 = .ok (.aload_n 0, 1) := by decide +kernel
theorem dX12_walk_9 : decode cX12_walk 9 = .ok (.iconst 0, 1) := by decide +kernel
theorem dX12_walk_10 : decode cX12_walk 10 = .ok (.putfield 186, 3) := by decide +kernel
theorem dX12_walk_13 : decode cX12_walk 13 = .ok (.aload_n 0, 1) := by decide +kernel
theorem dX12_walk_14 : decode cX12_walk 14 = .ok (.iconst 0, 1) := by decide +kernel
theorem dX12_walk_15 : decode cX12_walk 15 = .ok (.putfield 198, 3) := by decide +kernel
theorem dX12_walk_18 : decode cX12_walk 18 = .ok (.aload_n 0, 1) := by decide +kernel
theorem dX12_walk_19 : decode cX12_walk 19 = .ok (.iconst (-1), 1) := by decide +kernel
theorem dX12_walk_20 : decode cX12_walk 20 = .ok (.putfield 210, 3) := by decide +kernel
theorem dX12_walk_23 : decode cX12_walk 23 = .ok (.aload_n 0, 1) := by decide +kernel
theorem dX12_walk_24 : decode cX12_walk 24 = .ok (.iconst 0, 1) := by decide +kernel
theorem dX12_walk_25 : decode cX12_walk 25 = .ok (.putfield 192, 3) := by decide +kernel
theorem dX12_walk_28 : decode cX12_walk 28 = .ok (.aload_n 0, 1) := by decide +kernel
theorem dX12_walk_29 : decode cX12_walk 29 = .ok (.iconst (-1), 1) := by decide +kernel
theorem dX12_walk_30 : decode cX12_walk 30 = .ok (.putfield 195, 3) := by decide +kernel
theorem dX12_walk_33 : decode cX12_walk 33 = .ok (.aload_n 0, 1) := by decide +kernel
theorem dX12_walk_34 : decode cX12_walk 34 = .ok (.invokevirtual 467, 3) := by decide +kernel
theorem dX12_walk_37 : decode cX12_walk 37 = .ok (.aload_n 0, 1) := by decide +kernel
theorem dX12_walk_38 : decode cX12_walk 38 = .ok (.aload_n 0, 1) := by decide +kernel
theorem dX12_walk_39 : decode cX12_walk 39 = .ok (.getfield 192, 3) := by decide +kernel
theorem dX12_walk_42 : decode cX12_walk 42 = .ok (.putfield 470, 3) := by decide +kernel
theorem dX12_walk_45 : decode cX12_walk 45 = .ok (.aload_n 0, 1) := by decide +kernel
theorem dX12_walk_46 : decode cX12_walk 46 = .ok (.aload_n 0, 1) := by decide +kernel
theorem dX12_walk_47 : decode cX12_walk 47 = .ok (.getfield 195, 3) := by decide +kernel
theorem dX12_walk_50 : decode cX12_walk 50 = .ok (.putfield 378, 3) := by decide +kernel
theorem dX12_walk_53 : decode cX12_walk 53 = .ok (.aload_n 0, 1) := by decide +kernel
theorem dX12_walk_54 : decode cX12_walk 54 = .ok (.getfield 192, 3) := by decide +kernel
theorem dX12_walk_57 : decode cX12_walk 57 = .ok (.ifCond .eq 5, 3) := by decide +kernel
theorem dX12_walk_60 : decode cX12_walk 60 = .ok (.iconst (-1), 1) := by decide +kernel
theorem dX12_walk_61 : decode cX12_walk 61 = .ok (.ireturn, 1) := by decide +kernel
theorem dX12_walk_62 : decode cX12_walk 62 = .ok (.aload_n 0, 1) := by decide +kernel
theorem dX12_walk_63 : decode cX12_walk 63 = .ok (.invokevirtual 473, 3) := by decide +kernel
theorem dX12_walk_66 : decode cX12_walk 66 = .ok (.aload_n 0, 1) := by decide +kernel
theorem dX12_walk_67 : decode cX12_walk 67 = .ok (.getfield 464, 3) := by decide +kernel
theorem dX12_walk_70 : decode cX12_walk 70 = .ok (.ireturn, 1) := by decide +kernel
theorem dX12_fault_0 : decode cX12_fault 0 = .ok (.iload_n 1, 1) := by decide +kernel
theorem dX12_fault_1 : decode cX12_fault 1 = .ok (.ifCond .ne 10, 3) := by decide +kernel
theorem dX12_fault_4 : decode cX12_fault 4 = .ok (.aload_n 0, 1) := by decide +kernel
theorem dX12_fault_5 : decode cX12_fault 5 = .ok (.getfield 470, 3) := by decide +kernel
theorem dX12_fault_8 : decode cX12_fault 8 = .ok (.goto 16, 3) := by decide +kernel
theorem dX12_fault_11 : decode cX12_fault 11 = .ok (.iload_n 1, 1) := by decide +kernel
theorem dX12_fault_12 : decode cX12_fault 12 = .ok (.iconst 1, 1) := by decide +kernel
theorem dX12_fault_13 : decode cX12_fault 13 = .ok (.if_icmp .ne 10, 3) := by decide +kernel
theorem dX12_fault_16 : decode cX12_fault 16 = .ok (.aload_n 0, 1) := by decide +kernel
theorem dX12_fault_17 : decode cX12_fault 17 = .ok (.getfield 378, 3) := by decide +kernel
theorem dX12_fault_20 : decode cX12_fault 20 = .ok (.goto 4, 3) := by decide +kernel
theorem dX12_fault_23 : decode cX12_fault 23 = .ok (.iconst (-1), 1) := by decide +kernel
theorem dX12_fault_24 : decode cX12_fault 24 = .ok (.ireturn, 1) := by decide +kernel
theorem dX12_feetX_0 : decode cX12_feetX 0 = .ok (.aload_n 0, 1) := by decide +kernel
theorem dX12_feetX_1 : decode cX12_feetX 1 = .ok (.getfield 28, 3) := by decide +kernel
theorem dX12_feetX_4 : decode cX12_feetX 4 = .ok (.aload_n 0, 1) := by decide +kernel
theorem dX12_feetX_5 : decode cX12_feetX 5 = .ok (.getfield 34, 3) := by decide +kernel
theorem dX12_feetX_8 : decode cX12_feetX 8 = .ok (.aload_n 0, 1) := by decide +kernel
theorem dX12_feetX_9 : decode cX12_feetX 9 = .ok (.getfield 28, 3) := by decide +kernel
theorem dX12_feetX_12 : decode cX12_feetX 12 = .ok (.isub, 1) := by decide +kernel
theorem dX12_feetX_13 : decode cX12_feetX 13 = .ok (.aload_n 0, 1) := by decide +kernel
theorem dX12_feetX_14 : decode cX12_feetX 14 = .ok (.getfield 381, 3) := by decide +kernel
theorem dX12_feetX_17 : decode cX12_feetX 17 = .ok (.iload_n 1, 1) := by decide +kernel
theorem dX12_feetX_18 : decode cX12_feetX 18 = .ok (.iaload, 1) := by decide +kernel
theorem dX12_feetX_19 : decode cX12_feetX 19 = .ok (.imul, 1) := by decide +kernel
theorem dX12_feetX_20 : decode cX12_feetX 20 = .ok (.sipush 1000, 3) := by decide +kernel
theorem dX12_feetX_23 : decode cX12_feetX 23 = .ok (.invokestatic 441, 3) := by decide +kernel
theorem dX12_feetX_26 : decode cX12_feetX 26 = .ok (.iadd, 1) := by decide +kernel
theorem dX12_feetX_27 : decode cX12_feetX 27 = .ok (.ireturn, 1) := by decide +kernel
theorem dX12_feetY_0 : decode cX12_feetY 0 = .ok (.aload_n 0, 1) := by decide +kernel
theorem dX12_feetY_1 : decode cX12_feetY 1 = .ok (.getfield 31, 3) := by decide +kernel
theorem dX12_feetY_4 : decode cX12_feetY 4 = .ok (.aload_n 0, 1) := by decide +kernel
theorem dX12_feetY_5 : decode cX12_feetY 5 = .ok (.getfield 46, 3) := by decide +kernel
theorem dX12_feetY_8 : decode cX12_feetY 8 = .ok (.isub, 1) := by decide +kernel
theorem dX12_feetY_9 : decode cX12_feetY 9 = .ok (.aload_n 0, 1) := by decide +kernel
theorem dX12_feetY_10 : decode cX12_feetY 10 = .ok (.getfield 37, 3) := by decide +kernel
theorem dX12_feetY_13 : decode cX12_feetY 13 = .ok (.aload_n 0, 1) := by decide +kernel
theorem dX12_feetY_14 : decode cX12_feetY 14 = .ok (.getfield 31, 3) := by decide +kernel
theorem dX12_feetY_17 : decode cX12_feetY 17 = .ok (.isub, 1) := by decide +kernel
theorem dX12_feetY_18 : decode cX12_feetY 18 = .ok (.aload_n 0, 1) := by decide +kernel
theorem dX12_feetY_19 : decode cX12_feetY 19 = .ok (.getfield 381, 3) := by decide +kernel
theorem dX12_feetY_22 : decode cX12_feetY 22 = .ok (.iload_n 1, 1) := by decide +kernel
theorem dX12_feetY_23 : decode cX12_feetY 23 = .ok (.iaload, 1) := by decide +kernel
theorem dX12_feetY_24 : decode cX12_feetY 24 = .ok (.imul, 1) := by decide +kernel
theorem dX12_feetY_25 : decode cX12_feetY 25 = .ok (.sipush 1000, 3) := by decide +kernel
theorem dX12_feetY_28 : decode cX12_feetY 28 = .ok (.invokestatic 441, 3) := by decide +kernel
theorem dX12_feetY_31 : decode cX12_feetY 31 = .ok (.iadd, 1) := by decide +kernel
theorem dX12_feetY_32 : decode cX12_feetY 32 = .ok (.ireturn, 1) := by decide +kernel
theorem dX12_isHeld_0 : decode cX12_isHeld 0 = .ok (.aload_n 0, 1) := by decide +kernel
theorem dX12_isHeld_1 : decode cX12_isHeld 1 = .ok (.aload_n 0, 1) := by decide +kernel
theorem dX12_isHeld_2 : decode cX12_isHeld 2 = .ok (.iload_n 1, 1) := by decide +kernel
theorem dX12_isHeld_3 : decode cX12_isHeld 3 = .ok (.invokevirtual 476, 3) := by decide +kernel
theorem dX12_isHeld_6 : decode cX12_isHeld 6 = .ok (.i2l, 1) := by decide +kernel
theorem dX12_isHeld_7 : decode cX12_isHeld 7 = .ok (.aload_n 0, 1) := by decide +kernel
theorem dX12_isHeld_8 : decode cX12_isHeld 8 = .ok (.iload_n 1, 1) := by decide +kernel
theorem dX12_isHeld_9 : decode cX12_isHeld 9 = .ok (.invokevirtual 479, 3) := by decide +kernel
theorem dX12_isHeld_12 : decode cX12_isHeld 12 = .ok (.i2l, 1) := by decide +kernel
theorem dX12_isHeld_13 : decode cX12_isHeld 13 = .ok (.invokevirtual 121, 3) := by decide +kernel
theorem dX12_isHeld_16 : decode cX12_isHeld 16 = .ok (.aload_n 0, 1) := by decide +kernel
theorem dX12_isHeld_17 : decode cX12_isHeld 17 = .ok (.getfield 40, 3) := by decide +kernel
theorem dX12_isHeld_20 : decode cX12_isHeld 20 = .ok (.i2l, 1) := by decide +kernel
theorem dX12_isHeld_21 : decode cX12_isHeld 21 = .ok (.aload_n 0, 1) := by decide +kernel
theorem dX12_isHeld_22 : decode cX12_isHeld 22 = .ok (.invokevirtual 104, 3) := by decide +kernel
theorem dX12_isHeld_25 : decode cX12_isHeld 25 = .ok (.lmul, 1) := by decide +kernel
theorem dX12_isHeld_26 : decode cX12_isHeld 26 = .ok (.lsub, 1) := by decide +kernel
theorem dX12_isHeld_27 : decode cX12_isHeld 27 = .ok (.lstore_n 2, 1) := by decide +kernel
theorem dX12_isHeld_28 : decode cX12_isHeld 28 = .ok (.lload_n 2, 1) := by decide +kernel
theorem dX12_isHeld_29 : decode cX12_isHeld 29 = .ok (.aload_n 0, 1) := by decide +kernel
theorem dX12_isHeld_30 : decode cX12_isHeld 30 = .ok (.getfield 43, 3) := by decide +kernel
theorem dX12_isHeld_33 : decode cX12_isHeld 33 = .ok (.i2l, 1) := by decide +kernel
theorem dX12_isHeld_34 : decode cX12_isHeld 34 = .ok (.aload_n 0, 1) := by decide +kernel
theorem dX12_isHeld_35 : decode cX12_isHeld 35 = .ok (.invokevirtual 104, 3) := by decide +kernel
theorem dX12_isHeld_38 : decode cX12_isHeld 38 = .ok (.lmul, 1) := by decide +kernel
theorem dX12_isHeld_39 : decode cX12_isHeld 39 = .ok (.lcmp, 1) := by decide +kernel
theorem dX12_isHeld_40 : decode cX12_isHeld 40 = .ok (.ifCond .gt 23, 3) := by decide +kernel
theorem dX12_isHeld_43 : decode cX12_isHeld 43 = .ok (.lload_n 2, 1) := by decide +kernel
theorem dX12_isHeld_44 : decode cX12_isHeld 44 = .ok (.lneg, 1) := by decide +kernel
theorem dX12_isHeld_45 : decode cX12_isHeld 45 = .ok (.aload_n 0, 1) := by decide +kernel
theorem dX12_isHeld_46 : decode cX12_isHeld 46 = .ok (.getfield 43, 3) := by decide +kernel
theorem dX12_isHeld_49 : decode cX12_isHeld 49 = .ok (.i2l, 1) := by decide +kernel
theorem dX12_isHeld_50 : decode cX12_isHeld 50 = .ok (.aload_n 0, 1) := by decide +kernel
theorem dX12_isHeld_51 : decode cX12_isHeld 51 = .ok (.invokevirtual 104, 3) := by decide +kernel
theorem dX12_isHeld_54 : decode cX12_isHeld 54 = .ok (.lmul, 1) := by decide +kernel
theorem dX12_isHeld_55 : decode cX12_isHeld 55 = .ok (.lcmp, 1) := by decide +kernel
theorem dX12_isHeld_56 : decode cX12_isHeld 56 = .ok (.ifCond .gt 7, 3) := by decide +kernel
theorem dX12_isHeld_59 : decode cX12_isHeld 59 = .ok (.iconst 1, 1) := by decide +kernel
theorem dX12_isHeld_60 : decode cX12_isHeld 60 = .ok (.goto 4, 3) := by decide +kernel
theorem dX12_isHeld_63 : decode cX12_isHeld 63 = .ok (.iconst 0, 1) := by decide +kernel
theorem dX12_isHeld_64 : decode cX12_isHeld 64 = .ok (.ireturn, 1) := by decide +kernel
theorem dX12_clashes_0 : decode cX12_clashes 0 = .ok (.aload_n 0, 1) := by decide +kernel
theorem dX12_clashes_1 : decode cX12_clashes 1 = .ok (.aload_n 0, 1) := by decide +kernel
theorem dX12_clashes_2 : decode cX12_clashes 2 = .ok (.iload_n 1, 1) := by decide +kernel
theorem dX12_clashes_3 : decode cX12_clashes 3 = .ok (.invokevirtual 476, 3) := by decide +kernel
theorem dX12_clashes_6 : decode cX12_clashes 6 = .ok (.i2l, 1) := by decide +kernel
theorem dX12_clashes_7 : decode cX12_clashes 7 = .ok (.aload_n 0, 1) := by decide +kernel
theorem dX12_clashes_8 : decode cX12_clashes 8 = .ok (.iload_n 1, 1) := by decide +kernel
theorem dX12_clashes_9 : decode cX12_clashes 9 = .ok (.invokevirtual 479, 3) := by decide +kernel
theorem dX12_clashes_12 : decode cX12_clashes 12 = .ok (.aload_n 0, 1) := by decide +kernel
theorem dX12_clashes_13 : decode cX12_clashes 13 = .ok (.getfield 384, 3) := by decide +kernel
theorem dX12_clashes_16 : decode cX12_clashes 16 = .ok (.iload_n 1, 1) := by decide +kernel
theorem dX12_clashes_17 : decode cX12_clashes 17 = .ok (.iaload, 1) := by decide +kernel
theorem dX12_clashes_18 : decode cX12_clashes 18 = .ok (.iadd, 1) := by decide +kernel
theorem dX12_clashes_19 : decode cX12_clashes 19 = .ok (.i2l, 1) := by decide +kernel
theorem dX12_clashes_20 : decode cX12_clashes 20 = .ok (.invokevirtual 118, 3) := by decide +kernel
theorem dX12_clashes_23 : decode cX12_clashes 23 = .ok (.lstore_n 2, 1) := by decide +kernel
theorem dX12_clashes_24 : decode cX12_clashes 24 = .ok (.aload_n 0, 1) := by decide +kernel
theorem dX12_clashes_25 : decode cX12_clashes 25 = .ok (.aload_n 0, 1) := by decide +kernel
theorem dX12_clashes_26 : decode cX12_clashes 26 = .ok (.iload_n 1, 1) := by decide +kernel
theorem dX12_clashes_27 : decode cX12_clashes 27 = .ok (.invokevirtual 476, 3) := by decide +kernel
theorem dX12_clashes_30 : decode cX12_clashes 30 = .ok (.i2l, 1) := by decide +kernel
theorem dX12_clashes_31 : decode cX12_clashes 31 = .ok (.aload_n 0, 1) := by decide +kernel
theorem dX12_clashes_32 : decode cX12_clashes 32 = .ok (.iload_n 1, 1) := by decide +kernel
theorem dX12_clashes_33 : decode cX12_clashes 33 = .ok (.invokevirtual 479, 3) := by decide +kernel
theorem dX12_clashes_36 : decode cX12_clashes 36 = .ok (.aload_n 0, 1) := by decide +kernel
theorem dX12_clashes_37 : decode cX12_clashes 37 = .ok (.getfield 384, 3) := by decide +kernel
theorem dX12_clashes_40 : decode cX12_clashes 40 = .ok (.iload_n 1, 1) := by decide +kernel
theorem dX12_clashes_41 : decode cX12_clashes 41 = .ok (.iaload, 1) := by decide +kernel
theorem dX12_clashes_42 : decode cX12_clashes 42 = .ok (.iadd, 1) := by decide +kernel
theorem dX12_clashes_43 : decode cX12_clashes 43 = .ok (.i2l, 1) := by decide +kernel
theorem dX12_clashes_44 : decode cX12_clashes 44 = .ok (.invokevirtual 121, 3) := by decide +kernel
theorem dX12_clashes_47 : decode cX12_clashes 47 = .ok (.lstore 4, 2) := by decide +kernel
theorem dX12_clashes_49 : decode cX12_clashes 49 = .ok (.aload_n 0, 1) := by decide +kernel
theorem dX12_clashes_50 : decode cX12_clashes 50 = .ok (.invokevirtual 104, 3) := by decide +kernel
theorem dX12_clashes_53 : decode cX12_clashes 53 = .ok (.lstore 6, 2) := by decide +kernel
theorem dX12_clashes_55 : decode cX12_clashes 55 = .ok (.iconst 0, 1) := by decide +kernel
theorem dX12_clashes_56 : decode cX12_clashes 56 = .ok (.istore 8, 2) := by decide +kernel
theorem dX12_clashes_58 : decode cX12_clashes 58 = .ok (.iconst 0, 1) := by decide +kernel
theorem dX12_clashes_59 : decode cX12_clashes 59 = .ok (.istore 9, 2) := by decide +kernel
theorem dX12_clashes_61 : decode cX12_clashes 61 = .ok (.iload 9, 2) := by decide +kernel
theorem dX12_clashes_63 : decode cX12_clashes 63 = .ok (.bipush 8, 2) := by decide +kernel
theorem dX12_clashes_65 : decode cX12_clashes 65 = .ok (.if_icmp .ge 94, 3) := by decide +kernel
theorem dX12_clashes_68 : decode cX12_clashes 68 = .ok (.aload_n 0, 1) := by decide +kernel
theorem dX12_clashes_69 : decode cX12_clashes 69 = .ok (.getfield 78, 3) := by decide +kernel
theorem dX12_clashes_72 : decode cX12_clashes 72 = .ok (.iload 9, 2) := by decide +kernel
theorem dX12_clashes_74 : decode cX12_clashes 74 = .ok (.baload, 1) := by decide +kernel
theorem dX12_clashes_75 : decode cX12_clashes 75 = .ok (.ifCond .eq 78, 3) := by decide +kernel
theorem dX12_clashes_78 : decode cX12_clashes 78 = .ok (.lload_n 2, 1) := by decide +kernel
theorem dX12_clashes_79 : decode cX12_clashes 79 = .ok (.aload_n 0, 1) := by decide +kernel
theorem dX12_clashes_80 : decode cX12_clashes 80 = .ok (.getfield 81, 3) := by decide +kernel
theorem dX12_clashes_83 : decode cX12_clashes 83 = .ok (.iload 9, 2) := by decide +kernel
theorem dX12_clashes_85 : decode cX12_clashes 85 = .ok (.iaload, 1) := by decide +kernel
theorem dX12_clashes_86 : decode cX12_clashes 86 = .ok (.i2l, 1) := by decide +kernel
theorem dX12_clashes_87 : decode cX12_clashes 87 = .ok (.lload 6, 2) := by decide +kernel
theorem dX12_clashes_89 : decode cX12_clashes 89 = .ok (.lmul, 1) := by decide +kernel
theorem dX12_clashes_90 : decode cX12_clashes 90 = .ok (.lcmp, 1) := by decide +kernel
theorem dX12_clashes_91 : decode cX12_clashes 91 = .ok (.ifCond .le 62, 3) := by decide +kernel
theorem dX12_clashes_94 : decode cX12_clashes 94 = .ok (.lload_n 2, 1) := by decide +kernel
theorem dX12_clashes_95 : decode cX12_clashes 95 = .ok (.aload_n 0, 1) := by decide +kernel
theorem dX12_clashes_96 : decode cX12_clashes 96 = .ok (.getfield 84, 3) := by decide +kernel
theorem dX12_clashes_99 : decode cX12_clashes 99 = .ok (.iload 9, 2) := by decide +kernel
theorem dX12_clashes_101 : decode cX12_clashes 101 = .ok (.iaload, 1) := by decide +kernel
theorem dX12_clashes_102 : decode cX12_clashes 102 = .ok (.i2l, 1) := by decide +kernel
theorem dX12_clashes_103 : decode cX12_clashes 103 = .ok (.lload 6, 2) := by decide +kernel
theorem dX12_clashes_105 : decode cX12_clashes 105 = .ok (.lmul, 1) := by decide +kernel
theorem dX12_clashes_106 : decode cX12_clashes 106 = .ok (.lcmp, 1) := by decide +kernel
theorem dX12_clashes_107 : decode cX12_clashes 107 = .ok (.ifCond .ge 46, 3) := by decide +kernel
theorem dX12_clashes_110 : decode cX12_clashes 110 = .ok (.lload 4, 2) := by decide +kernel
theorem dX12_clashes_112 : decode cX12_clashes 112 = .ok (.aload_n 0, 1) := by decide +kernel
theorem dX12_clashes_113 : decode cX12_clashes 113 = .ok (.getfield 87, 3) := by decide +kernel
theorem dX12_clashes_116 : decode cX12_clashes 116 = .ok (.iload 9, 2) := by decide +kernel
theorem dX12_clashes_118 : decode cX12_clashes 118 = .ok (.iaload, 1) := by decide +kernel
theorem dX12_clashes_119 : decode cX12_clashes 119 = .ok (.i2l, 1) := by decide +kernel
theorem dX12_clashes_120 : decode cX12_clashes 120 = .ok (.lload 6, 2) := by decide +kernel
theorem dX12_clashes_122 : decode cX12_clashes 122 = .ok (.lmul, 1) := by decide +kernel
theorem dX12_clashes_123 : decode cX12_clashes 123 = .ok (.lcmp, 1) := by decide +kernel
theorem dX12_clashes_124 : decode cX12_clashes 124 = .ok (.ifCond .le 29, 3) := by decide +kernel
theorem dX12_clashes_127 : decode cX12_clashes 127 = .ok (.lload 4, 2) := by decide +kernel
theorem dX12_clashes_129 : decode cX12_clashes 129 = .ok (.aload_n 0, 1) := by decide +kernel
theorem dX12_clashes_130 : decode cX12_clashes 130 = .ok (.getfield 90, 3) := by decide +kernel
theorem dX12_clashes_133 : decode cX12_clashes 133 = .ok (.iload 9, 2) := by decide +kernel
theorem dX12_clashes_135 : decode cX12_clashes 135 = .ok (.iaload, 1) := by decide +kernel
theorem dX12_clashes_136 : decode cX12_clashes 136 = .ok (.i2l, 1) := by decide +kernel
theorem dX12_clashes_137 : decode cX12_clashes 137 = .ok (.lload 6, 2) := by decide +kernel
theorem dX12_clashes_139 : decode cX12_clashes 139 = .ok (.lmul, 1) := by decide +kernel
theorem dX12_clashes_140 : decode cX12_clashes 140 = .ok (.lcmp, 1) := by decide +kernel
theorem dX12_clashes_141 : decode cX12_clashes 141 = .ok (.ifCond .ge 12, 3) := by decide +kernel
theorem dX12_clashes_144 : decode cX12_clashes 144 = .ok (.iload 8, 2) := by decide +kernel
theorem dX12_clashes_146 : decode cX12_clashes 146 = .ok (.iconst 1, 1) := by decide +kernel
theorem dX12_clashes_147 : decode cX12_clashes 147 = .ok (.iload 9, 2) := by decide +kernel
theorem dX12_clashes_149 : decode cX12_clashes 149 = .ok (.ishl, 1) := by decide +kernel
theorem dX12_clashes_150 : decode cX12_clashes 150 = .ok (.ior, 1) := by decide +kernel
theorem dX12_clashes_151 : decode cX12_clashes 151 = .ok (.istore 8, 2) := by decide +kernel
theorem dX12_clashes_153 : decode cX12_clashes 153 = .ok (.iinc 9 1, 3) := by decide +kernel
theorem dX12_clashes_156 : decode cX12_clashes 156 = .ok (.goto (-95), 3) := by decide +kernel
theorem dX12_clashes_159 : decode cX12_clashes 159 = .ok (.iload 8, 2) := by decide +kernel
theorem dX12_clashes_161 : decode cX12_clashes 161 = .ok (.ireturn, 1) := by decide +kernel
theorem dX12_isCount_0 : decode cX12_isCount 0 = .ok (.iload_n 1, 1) := by decide +kernel
theorem dX12_isCount_1 : decode cX12_isCount 1 = .ok (.iconst 0, 1) := by decide +kernel
theorem dX12_isCount_2 : decode cX12_isCount 2 = .ok (.aload_n 0, 1) := by decide +kernel
theorem dX12_isCount_3 : decode cX12_isCount 3 = .ok (.getfield 464, 3) := by decide +kernel
theorem dX12_isCount_6 : decode cX12_isCount 6 = .ok (.invokestatic 3, 3) := by decide +kernel
theorem dX12_isCount_9 : decode cX12_isCount 9 = .ok (.ireturn, 1) := by decide +kernel
theorem dX12_count_0 : decode cX12_count 0 = .ok (.aload_n 0, 1) := by decide +kernel
theorem dX12_count_1 : decode cX12_count 1 = .ok (.iload_n 1, 1) := by decide +kernel
theorem dX12_count_2 : decode cX12_count 2 = .ok (.invokevirtual 482, 3) := by decide +kernel
theorem dX12_count_5 : decode cX12_count 5 = .ok (.ifCond .ne 7, 3) := by decide +kernel
theorem dX12_count_8 : decode cX12_count 8 = .ok (.sipush (-1000), 3) := by decide +kernel
theorem dX12_count_11 : decode cX12_count 11 = .ok (.ireturn, 1) := by decide +kernel
theorem dX12_count_12 : decode cX12_count 12 = .ok (.iload_n 2, 1) := by decide +kernel
theorem dX12_count_13 : decode cX12_count 13 = .ok (.tableswitch 103 0 6 #[43, 50, 57, 64, 70, 83, 97], 43) := by decide +kernel
theorem dX12_count_56 : decode cX12_count 56 = .ok (.aload_n 0, 1) := by decide +kernel
theorem dX12_count_57 : decode cX12_count 57 = .ok (.getfield 381, 3) := by decide +kernel
theorem dX12_count_60 : decode cX12_count 60 = .ok (.iload_n 1, 1) := by decide +kernel
theorem dX12_count_61 : decode cX12_count 61 = .ok (.iaload, 1) := by decide +kernel
theorem dX12_count_62 : decode cX12_count 62 = .ok (.ireturn, 1) := by decide +kernel
theorem dX12_count_63 : decode cX12_count 63 = .ok (.aload_n 0, 1) := by decide +kernel
theorem dX12_count_64 : decode cX12_count 64 = .ok (.getfield 384, 3) := by decide +kernel
theorem dX12_count_67 : decode cX12_count 67 = .ok (.iload_n 1, 1) := by decide +kernel
theorem dX12_count_68 : decode cX12_count 68 = .ok (.iaload, 1) := by decide +kernel
theorem dX12_count_69 : decode cX12_count 69 = .ok (.ireturn, 1) := by decide +kernel
theorem dX12_count_70 : decode cX12_count 70 = .ok (.aload_n 0, 1) := by decide +kernel
theorem dX12_count_71 : decode cX12_count 71 = .ok (.getfield 387, 3) := by decide +kernel
theorem dX12_count_74 : decode cX12_count 74 = .ok (.iload_n 1, 1) := by decide +kernel
theorem dX12_count_75 : decode cX12_count 75 = .ok (.iaload, 1) := by decide +kernel
theorem dX12_count_76 : decode cX12_count 76 = .ok (.ireturn, 1) := by decide +kernel
theorem dX12_count_77 : decode cX12_count 77 = .ok (.aload_n 0, 1) := by decide +kernel
theorem dX12_count_78 : decode cX12_count 78 = .ok (.iload_n 1, 1) := by decide +kernel
theorem dX12_count_79 : decode cX12_count 79 = .ok (.invokevirtual 476, 3) := by decide +kernel
theorem dX12_count_82 : decode cX12_count 82 = .ok (.ireturn, 1) := by decide +kernel
theorem dX12_count_83 : decode cX12_count 83 = .ok (.aload_n 0, 1) := by decide +kernel
theorem dX12_count_84 : decode cX12_count 84 = .ok (.iload_n 1, 1) := by decide +kernel
theorem dX12_count_85 : decode cX12_count 85 = .ok (.invokevirtual 479, 3) := by decide +kernel
theorem dX12_count_88 : decode cX12_count 88 = .ok (.aload_n 0, 1) := by decide +kernel
theorem dX12_count_89 : decode cX12_count 89 = .ok (.getfield 384, 3) := by decide +kernel
theorem dX12_count_92 : decode cX12_count 92 = .ok (.iload_n 1, 1) := by decide +kernel
theorem dX12_count_93 : decode cX12_count 93 = .ok (.iaload, 1) := by decide +kernel
theorem dX12_count_94 : decode cX12_count 94 = .ok (.iadd, 1) := by decide +kernel
theorem dX12_count_95 : decode cX12_count 95 = .ok (.ireturn, 1) := by decide +kernel
theorem dX12_count_96 : decode cX12_count 96 = .ok (.aload_n 0, 1) := by decide +kernel
theorem dX12_count_97 : decode cX12_count 97 = .ok (.iload_n 1, 1) := by decide +kernel
theorem dX12_count_98 : decode cX12_count 98 = .ok (.invokevirtual 485, 3) := by decide +kernel
theorem dX12_count_101 : decode cX12_count 101 = .ok (.ifCond .eq 7, 3) := by decide +kernel
theorem dX12_count_104 : decode cX12_count 104 = .ok (.iconst 1, 1) := by decide +kernel
theorem dX12_count_105 : decode cX12_count 105 = .ok (.goto 4, 3) := by decide +kernel
theorem dX12_count_108 : decode cX12_count 108 = .ok (.iconst 0, 1) := by decide +kernel
theorem dX12_count_109 : decode cX12_count 109 = .ok (.ireturn, 1) := by decide +kernel
theorem dX12_count_110 : decode cX12_count 110 = .ok (.aload_n 0, 1) := by decide +kernel
theorem dX12_count_111 : decode cX12_count 111 = .ok (.iload_n 1, 1) := by decide +kernel
theorem dX12_count_112 : decode cX12_count 112 = .ok (.invokevirtual 488, 3) := by decide +kernel
theorem dX12_count_115 : decode cX12_count 115 = .ok (.ireturn, 1) := by decide +kernel
theorem dX12_count_116 : decode cX12_count 116 = .ok (.sipush (-1000), 3) := by decide +kernel
theorem dX12_count_119 : decode cX12_count 119 = .ok (.ireturn, 1) := by decide +kernel
theorem dX12_seesFace_0 : decode cX12_seesFace 0 = .ok (.aload_n 0, 1) := by decide +kernel
theorem dX12_seesFace_1 : decode cX12_seesFace 1 = .ok (.iload_n 1, 1) := by decide +kernel
theorem dX12_seesFace_2 : decode cX12_seesFace 2 = .ok (.ldc2_w 108, 3) := by decide +kernel
theorem dX12_seesFace_5 : decode cX12_seesFace 5 = .ok (.aload_n 0, 1) := by decide +kernel
theorem dX12_seesFace_6 : decode cX12_seesFace 6 = .ok (.iload_n 2, 1) := by decide +kernel
theorem dX12_seesFace_7 : decode cX12_seesFace 7 = .ok (.invokevirtual 476, 3) := by decide +kernel
theorem dX12_seesFace_10 : decode cX12_seesFace 10 = .ok (.i2l, 1) := by decide +kernel
theorem dX12_seesFace_11 : decode cX12_seesFace 11 = .ok (.lmul, 1) := by decide +kernel
theorem dX12_seesFace_12 : decode cX12_seesFace 12 = .ok (.ldc2_w 108, 3) := by decide +kernel
theorem dX12_seesFace_15 : decode cX12_seesFace 15 = .ok (.aload_n 0, 1) := by decide +kernel
theorem dX12_seesFace_16 : decode cX12_seesFace 16 = .ok (.iload_n 2, 1) := by decide +kernel
theorem dX12_seesFace_17 : decode cX12_seesFace 17 = .ok (.invokevirtual 479, 3) := by decide +kernel
theorem dX12_seesFace_20 : decode cX12_seesFace 20 = .ok (.aload_n 0, 1) := by decide +kernel
theorem dX12_seesFace_21 : decode cX12_seesFace 21 = .ok (.getfield 384, 3) := by decide +kernel
theorem dX12_seesFace_24 : decode cX12_seesFace 24 = .ok (.iload_n 2, 1) := by decide +kernel
theorem dX12_seesFace_25 : decode cX12_seesFace 25 = .ok (.iaload, 1) := by decide +kernel
theorem dX12_seesFace_26 : decode cX12_seesFace 26 = .ok (.iadd, 1) := by decide +kernel
theorem dX12_seesFace_27 : decode cX12_seesFace 27 = .ok (.bipush 8, 2) := by decide +kernel
theorem dX12_seesFace_29 : decode cX12_seesFace 29 = .ok (.iadd, 1) := by decide +kernel
theorem dX12_seesFace_30 : decode cX12_seesFace 30 = .ok (.i2l, 1) := by decide +kernel
theorem dX12_seesFace_31 : decode cX12_seesFace 31 = .ok (.lmul, 1) := by decide +kernel
theorem dX12_seesFace_32 : decode cX12_seesFace 32 = .ok (.invokevirtual 174, 3) := by decide +kernel
theorem dX12_seesFace_35 : decode cX12_seesFace 35 = .ok (.ireturn, 1) := by decide +kernel
theorem dX12_hasCount_0 : decode cX12_hasCount 0 = .ok (.aload_n 0, 1) := by decide +kernel
theorem dX12_hasCount_1 : decode cX12_hasCount 1 = .ok (.getfield 387, 3) := by decide +kernel
theorem dX12_hasCount_4 : decode cX12_hasCount 4 = .ok (.iload_n 2, 1) := by decide +kernel
theorem dX12_hasCount_5 : decode cX12_hasCount 5 = .ok (.iaload, 1) := by decide +kernel
theorem dX12_hasCount_6 : decode cX12_hasCount 6 = .ok (.iconst 1, 1) := by decide +kernel
theorem dX12_hasCount_7 : decode cX12_hasCount 7 = .ok (.if_icmp .ne 67, 3) := by decide +kernel
theorem dX12_hasCount_10 : decode cX12_hasCount 10 = .ok (.aload_n 0, 1) := by decide +kernel
theorem dX12_hasCount_11 : decode cX12_hasCount 11 = .ok (.iload_n 2, 1) := by decide +kernel
theorem dX12_hasCount_12 : decode cX12_hasCount 12 = .ok (.invokevirtual 485, 3) := by decide +kernel
theorem dX12_hasCount_15 : decode cX12_hasCount 15 = .ok (.ifCond .eq 59, 3) := by decide +kernel
theorem dX12_hasCount_18 : decode cX12_hasCount 18 = .ok (.aload_n 0, 1) := by decide +kernel
theorem dX12_hasCount_19 : decode cX12_hasCount 19 = .ok (.iload_n 2, 1) := by decide +kernel
theorem dX12_hasCount_20 : decode cX12_hasCount 20 = .ok (.invokevirtual 488, 3) := by decide +kernel
theorem dX12_hasCount_23 : decode cX12_hasCount 23 = .ok (.ifCond .ne 51, 3) := by decide +kernel
theorem dX12_hasCount_26 : decode cX12_hasCount 26 = .ok (.aload_n 0, 1) := by decide +kernel
theorem dX12_hasCount_27 : decode cX12_hasCount 27 = .ok (.iload_n 1, 1) := by decide +kernel
theorem dX12_hasCount_28 : decode cX12_hasCount 28 = .ok (.ldc2_w 108, 3) := by decide +kernel
theorem dX12_hasCount_31 : decode cX12_hasCount 31 = .ok (.aload_n 0, 1) := by decide +kernel
theorem dX12_hasCount_32 : decode cX12_hasCount 32 = .ok (.iload_n 2, 1) := by decide +kernel
theorem dX12_hasCount_33 : decode cX12_hasCount 33 = .ok (.invokevirtual 476, 3) := by decide +kernel
theorem dX12_hasCount_36 : decode cX12_hasCount 36 = .ok (.i2l, 1) := by decide +kernel
theorem dX12_hasCount_37 : decode cX12_hasCount 37 = .ok (.lmul, 1) := by decide +kernel
theorem dX12_hasCount_38 : decode cX12_hasCount 38 = .ok (.ldc2_w 108, 3) := by decide +kernel
theorem dX12_hasCount_41 : decode cX12_hasCount 41 = .ok (.aload_n 0, 1) := by decide +kernel
theorem dX12_hasCount_42 : decode cX12_hasCount 42 = .ok (.iload_n 2, 1) := by decide +kernel
theorem dX12_hasCount_43 : decode cX12_hasCount 43 = .ok (.invokevirtual 479, 3) := by decide +kernel
theorem dX12_hasCount_46 : decode cX12_hasCount 46 = .ok (.aload_n 0, 1) := by decide +kernel
theorem dX12_hasCount_47 : decode cX12_hasCount 47 = .ok (.getfield 384, 3) := by decide +kernel
theorem dX12_hasCount_50 : decode cX12_hasCount 50 = .ok (.iload_n 2, 1) := by decide +kernel
theorem dX12_hasCount_51 : decode cX12_hasCount 51 = .ok (.iaload, 1) := by decide +kernel
theorem dX12_hasCount_52 : decode cX12_hasCount 52 = .ok (.iadd, 1) := by decide +kernel
theorem dX12_hasCount_53 : decode cX12_hasCount 53 = .ok (.i2l, 1) := by decide +kernel
theorem dX12_hasCount_54 : decode cX12_hasCount 54 = .ok (.lmul, 1) := by decide +kernel
theorem dX12_hasCount_55 : decode cX12_hasCount 55 = .ok (.invokevirtual 174, 3) := by decide +kernel
theorem dX12_hasCount_58 : decode cX12_hasCount 58 = .ok (.ifCond .eq 16, 3) := by decide +kernel
theorem dX12_hasCount_61 : decode cX12_hasCount 61 = .ok (.aload_n 0, 1) := by decide +kernel
theorem dX12_hasCount_62 : decode cX12_hasCount 62 = .ok (.iload_n 1, 1) := by decide +kernel
theorem dX12_hasCount_63 : decode cX12_hasCount 63 = .ok (.iload_n 2, 1) := by decide +kernel
theorem dX12_hasCount_64 : decode cX12_hasCount 64 = .ok (.invokevirtual 491, 3) := by decide +kernel
theorem dX12_hasCount_67 : decode cX12_hasCount 67 = .ok (.ifCond .eq 7, 3) := by decide +kernel
theorem dX12_hasCount_70 : decode cX12_hasCount 70 = .ok (.iconst 1, 1) := by decide +kernel
theorem dX12_hasCount_71 : decode cX12_hasCount 71 = .ok (.goto 4, 3) := by decide +kernel
theorem dX12_hasCount_74 : decode cX12_hasCount 74 = .ok (.iconst 0, 1) := by decide +kernel
theorem dX12_hasCount_75 : decode cX12_hasCount 75 = .ok (.ireturn, 1) := by decide +kernel
theorem dX12_has_0 : decode cX12_has 0 = .ok (.aload_n 0, 1) := by decide +kernel
theorem dX12_has_1 : decode cX12_has 1 = .ok (.iload_n 1, 1) := by decide +kernel
theorem dX12_has_2 : decode cX12_has 2 = .ok (.invokevirtual 93, 3) := by decide +kernel
theorem dX12_has_5 : decode cX12_has 5 = .ok (.ifCond .eq 11, 3) := by decide +kernel
theorem dX12_has_8 : decode cX12_has 8 = .ok (.aload_n 0, 1) := by decide +kernel
theorem dX12_has_9 : decode cX12_has 9 = .ok (.iload_n 2, 1) := by decide +kernel
theorem dX12_has_10 : decode cX12_has 10 = .ok (.invokevirtual 482, 3) := by decide +kernel
theorem dX12_has_13 : decode cX12_has 13 = .ok (.ifCond .ne 5, 3) := by decide +kernel
theorem dX12_has_16 : decode cX12_has 16 = .ok (.iconst (-1), 1) := by decide +kernel
theorem dX12_has_17 : decode cX12_has 17 = .ok (.ireturn, 1) := by decide +kernel
theorem dX12_has_18 : decode cX12_has 18 = .ok (.aload_n 0, 1) := by decide +kernel
theorem dX12_has_19 : decode cX12_has 19 = .ok (.iload_n 1, 1) := by decide +kernel
theorem dX12_has_20 : decode cX12_has 20 = .ok (.iload_n 2, 1) := by decide +kernel
theorem dX12_has_21 : decode cX12_has 21 = .ok (.invokevirtual 494, 3) := by decide +kernel
theorem dX12_has_24 : decode cX12_has 24 = .ok (.ifCond .eq 7, 3) := by decide +kernel
theorem dX12_has_27 : decode cX12_has 27 = .ok (.iconst 1, 1) := by decide +kernel
theorem dX12_has_28 : decode cX12_has 28 = .ok (.goto 4, 3) := by decide +kernel
theorem dX12_has_31 : decode cX12_has 31 = .ok (.iconst 0, 1) := by decide +kernel
theorem dX12_has_32 : decode cX12_has 32 = .ok (.ireturn, 1) := by decide +kernel
theorem dX12_countsOfSeat_0 : decode cX12_countsOfSeat 0 = .ok (.iconst 0, 1) := by decide +kernel
theorem dX12_countsOfSeat_1 : decode cX12_countsOfSeat 1 = .ok (.istore_n 2, 1) := by decide +kernel
theorem dX12_countsOfSeat_2 : decode cX12_countsOfSeat 2 = .ok (.iconst 0, 1) := by decide +kernel
theorem dX12_countsOfSeat_3 : decode cX12_countsOfSeat 3 = .ok (.istore_n 3, 1) := by decide +kernel
theorem dX12_countsOfSeat_4 : decode cX12_countsOfSeat 4 = .ok (.iload_n 3, 1) := by decide +kernel
theorem dX12_countsOfSeat_5 : decode cX12_countsOfSeat 5 = .ok (.aload_n 0, 1) := by decide +kernel
theorem dX12_countsOfSeat_6 : decode cX12_countsOfSeat 6 = .ok (.getfield 464, 3) := by decide +kernel
theorem dX12_countsOfSeat_9 : decode cX12_countsOfSeat 9 = .ok (.if_icmp .gt 21, 3) := by decide +kernel
theorem dX12_countsOfSeat_12 : decode cX12_countsOfSeat 12 = .ok (.aload_n 0, 1) := by decide +kernel
theorem dX12_countsOfSeat_13 : decode cX12_countsOfSeat 13 = .ok (.iload_n 1, 1) := by decide +kernel
theorem dX12_countsOfSeat_14 : decode cX12_countsOfSeat 14 = .ok (.iload_n 3, 1) := by decide +kernel
theorem dX12_countsOfSeat_15 : decode cX12_countsOfSeat 15 = .ok (.invokevirtual 494, 3) := by decide +kernel
theorem dX12_countsOfSeat_18 : decode cX12_countsOfSeat 18 = .ok (.ifCond .eq 6, 3) := by decide +kernel
theorem dX12_countsOfSeat_21 : decode cX12_countsOfSeat 21 = .ok (.iinc 2 1, 3) := by decide +kernel
theorem dX12_countsOfSeat_24 : decode cX12_countsOfSeat 24 = .ok (.iinc 3 1, 3) := by decide +kernel
theorem dX12_countsOfSeat_27 : decode cX12_countsOfSeat 27 = .ok (.goto (-23), 3) := by decide +kernel
theorem dX12_countsOfSeat_30 : decode cX12_countsOfSeat 30 = .ok (.iload_n 2, 1) := by decide +kernel
theorem dX12_countsOfSeat_31 : decode cX12_countsOfSeat 31 = .ok (.ireturn, 1) := by decide +kernel
theorem dX12_counts_0 : decode cX12_counts 0 = .ok (.aload_n 0, 1) := by decide +kernel
theorem dX12_counts_1 : decode cX12_counts 1 = .ok (.iload_n 1, 1) := by decide +kernel
theorem dX12_counts_2 : decode cX12_counts 2 = .ok (.invokevirtual 93, 3) := by decide +kernel
theorem dX12_counts_5 : decode cX12_counts 5 = .ok (.ifCond .eq 11, 3) := by decide +kernel
theorem dX12_counts_8 : decode cX12_counts 8 = .ok (.aload_n 0, 1) := by decide +kernel
theorem dX12_counts_9 : decode cX12_counts 9 = .ok (.iload_n 1, 1) := by decide +kernel
theorem dX12_counts_10 : decode cX12_counts 10 = .ok (.invokevirtual 497, 3) := by decide +kernel
theorem dX12_counts_13 : decode cX12_counts 13 = .ok (.goto 4, 3) := by decide +kernel
theorem dX12_counts_16 : decode cX12_counts 16 = .ok (.iconst (-1), 1) := by decide +kernel
theorem dX12_counts_17 : decode cX12_counts 17 = .ok (.ireturn, 1) := by decide +kernel
theorem dX12_house_0 : decode cX12_house 0 = .ok (.iconst 0, 1) := by decide +kernel
theorem dX12_house_1 : decode cX12_house 1 = .ok (.istore_n 1, 1) := by decide +kernel
theorem dX12_house_2 : decode cX12_house 2 = .ok (.iconst 0, 1) := by decide +kernel
theorem dX12_house_3 : decode cX12_house 3 = .ok (.istore_n 2, 1) := by decide +kernel
theorem dX12_house_4 : decode cX12_house 4 = .ok (.iload_n 2, 1) := by decide +kernel
theorem dX12_house_5 : decode cX12_house 5 = .ok (.bipush 8, 2) := by decide +kernel
theorem dX12_house_7 : decode cX12_house 7 = .ok (.if_icmp .ge 26, 3) := by decide +kernel
theorem dX12_house_10 : decode cX12_house 10 = .ok (.aload_n 0, 1) := by decide +kernel
theorem dX12_house_11 : decode cX12_house 11 = .ok (.getfield 49, 3) := by decide +kernel
theorem dX12_house_14 : decode cX12_house 14 = .ok (.iload_n 2, 1) := by decide +kernel
theorem dX12_house_15 : decode cX12_house 15 = .ok (.baload, 1) := by decide +kernel
theorem dX12_house_16 : decode cX12_house 16 = .ok (.ifCond .eq 11, 3) := by decide +kernel
theorem dX12_house_19 : decode cX12_house 19 = .ok (.iload_n 1, 1) := by decide +kernel
theorem dX12_house_20 : decode cX12_house 20 = .ok (.aload_n 0, 1) := by decide +kernel
theorem dX12_house_21 : decode cX12_house 21 = .ok (.iload_n 2, 1) := by decide +kernel
theorem dX12_house_22 : decode cX12_house 22 = .ok (.invokevirtual 497, 3) := by decide +kernel
theorem dX12_house_25 : decode cX12_house 25 = .ok (.iadd, 1) := by decide +kernel
theorem dX12_house_26 : decode cX12_house 26 = .ok (.istore_n 1, 1) := by decide +kernel
theorem dX12_house_27 : decode cX12_house 27 = .ok (.iinc 2 1, 3) := by decide +kernel
theorem dX12_house_30 : decode cX12_house 30 = .ok (.goto (-26), 3) := by decide +kernel
theorem dX12_house_33 : decode cX12_house 33 = .ok (.iload_n 1, 1) := by decide +kernel
theorem dX12_house_34 : decode cX12_house 34 = .ok (.ireturn, 1) := by decide +kernel
theorem dX12_canAll_0 : decode cX12_canAll 0 = .ok (.iconst 0, 1) := by decide +kernel
theorem dX12_canAll_1 : decode cX12_canAll 1 = .ok (.istore 6, 2) := by decide +kernel
theorem dX12_canAll_3 : decode cX12_canAll 3 = .ok (.iload 6, 2) := by decide +kernel
theorem dX12_canAll_5 : decode cX12_canAll 5 = .ok (.iload_n 1, 1) := by decide +kernel
theorem dX12_canAll_6 : decode cX12_canAll 6 = .ok (.if_icmp .ge 61, 3) := by decide +kernel
theorem dX12_canAll_9 : decode cX12_canAll 9 = .ok (.aload_n 0, 1) := by decide +kernel
theorem dX12_canAll_10 : decode cX12_canAll 10 = .ok (.getfield 22, 3) := by decide +kernel
theorem dX12_canAll_13 : decode cX12_canAll 13 = .ok (.iload 6, 2) := by decide +kernel
theorem dX12_canAll_15 : decode cX12_canAll 15 = .ok (.iload_n 2, 1) := by decide +kernel
theorem dX12_canAll_16 : decode cX12_canAll 16 = .ok (.imul, 1) := by decide +kernel
theorem dX12_canAll_17 : decode cX12_canAll 17 = .ok (.iadd, 1) := by decide +kernel
theorem dX12_canAll_18 : decode cX12_canAll 18 = .ok (.istore 7, 2) := by decide +kernel
theorem dX12_canAll_20 : decode cX12_canAll 20 = .ok (.aload_n 0, 1) := by decide +kernel
theorem dX12_canAll_21 : decode cX12_canAll 21 = .ok (.getfield 25, 3) := by decide +kernel
theorem dX12_canAll_24 : decode cX12_canAll 24 = .ok (.iload 6, 2) := by decide +kernel
theorem dX12_canAll_26 : decode cX12_canAll 26 = .ok (.iload_n 3, 1) := by decide +kernel
theorem dX12_canAll_27 : decode cX12_canAll 27 = .ok (.imul, 1) := by decide +kernel
theorem dX12_canAll_28 : decode cX12_canAll 28 = .ok (.iadd, 1) := by decide +kernel
theorem dX12_canAll_29 : decode cX12_canAll 29 = .ok (.istore 8, 2) := by decide +kernel
theorem dX12_canAll_31 : decode cX12_canAll 31 = .ok (.iload 7, 2) := by decide +kernel
theorem dX12_canAll_33 : decode cX12_canAll 33 = .ok (.iload 8, 2) := by decide +kernel
theorem dX12_canAll_35 : decode cX12_canAll 35 = .ok (.invokestatic 7, 3) := by decide +kernel
theorem dX12_canAll_38 : decode cX12_canAll 38 = .ok (.ifCond .eq 21, 3) := by decide +kernel
theorem dX12_canAll_41 : decode cX12_canAll 41 = .ok (.iload 7, 2) := by decide +kernel
theorem dX12_canAll_43 : decode cX12_canAll 43 = .ok (.aload_n 0, 1) := by decide +kernel
theorem dX12_canAll_44 : decode cX12_canAll 44 = .ok (.getfield 15, 3) := by decide +kernel
theorem dX12_canAll_47 : decode cX12_canAll 47 = .ok (.if_icmp .ne 14, 3) := by decide +kernel
theorem dX12_canAll_50 : decode cX12_canAll 50 = .ok (.iload 8, 2) := by decide +kernel
theorem dX12_canAll_52 : decode cX12_canAll 52 = .ok (.aload_n 0, 1) := by decide +kernel
theorem dX12_canAll_53 : decode cX12_canAll 53 = .ok (.getfield 19, 3) := by decide +kernel
theorem dX12_canAll_56 : decode cX12_canAll 56 = .ok (.if_icmp .ne 5, 3) := by decide +kernel
theorem dX12_canAll_59 : decode cX12_canAll 59 = .ok (.iconst 0, 1) := by decide +kernel
theorem dX12_canAll_60 : decode cX12_canAll 60 = .ok (.ireturn, 1) := by decide +kernel
theorem dX12_canAll_61 : decode cX12_canAll 61 = .ok (.iinc 6 1, 3) := by decide +kernel
theorem dX12_canAll_64 : decode cX12_canAll 64 = .ok (.goto (-61), 3) := by decide +kernel
theorem dX12_canAll_67 : decode cX12_canAll 67 = .ok (.aload_n 0, 1) := by decide +kernel
theorem dX12_canAll_68 : decode cX12_canAll 68 = .ok (.getfield 46, 3) := by decide +kernel
theorem dX12_canAll_71 : decode cX12_canAll 71 = .ok (.iload 4, 2) := by decide +kernel
theorem dX12_canAll_73 : decode cX12_canAll 73 = .ok (.iconst 1, 1) := by decide +kernel
theorem dX12_canAll_74 : decode cX12_canAll 74 = .ok (.isub, 1) := by decide +kernel
theorem dX12_canAll_75 : decode cX12_canAll 75 = .ok (.iload 5, 2) := by decide +kernel
theorem dX12_canAll_77 : decode cX12_canAll 77 = .ok (.imul, 1) := by decide +kernel
theorem dX12_canAll_78 : decode cX12_canAll 78 = .ok (.iadd, 1) := by decide +kernel
theorem dX12_canAll_79 : decode cX12_canAll 79 = .ok (.bipush 60, 2) := by decide +kernel
theorem dX12_canAll_81 : decode cX12_canAll 81 = .ok (.if_icmp .gt 7, 3) := by decide +kernel
theorem dX12_canAll_84 : decode cX12_canAll 84 = .ok (.iconst 1, 1) := by decide +kernel
theorem dX12_canAll_85 : decode cX12_canAll 85 = .ok (.goto 4, 3) := by decide +kernel
theorem dX12_canAll_88 : decode cX12_canAll 88 = .ok (.iconst 0, 1) := by decide +kernel
theorem dX12_canAll_89 : decode cX12_canAll 89 = .ok (.ireturn, 1) := by decide +kernel
theorem dX12_grid_0 : decode cX12_grid 0 = .ok (.aload_n 0, 1) := by decide +kernel
theorem dX12_grid_1 : decode cX12_grid 1 = .ok (.iload_n 1, 1) := by decide +kernel
theorem dX12_grid_2 : decode cX12_grid 2 = .ok (.iconst 1, 1) := by decide +kernel
theorem dX12_grid_3 : decode cX12_grid 3 = .ok (.bipush 6, 2) := by decide +kernel
theorem dX12_grid_5 : decode cX12_grid 5 = .ok (.invokestatic 3, 3) := by decide +kernel
theorem dX12_grid_8 : decode cX12_grid 8 = .ok (.ifCond .eq 65, 3) := by decide +kernel
theorem dX12_grid_11 : decode cX12_grid 11 = .ok (.iload_n 2, 1) := by decide +kernel
theorem dX12_grid_12 : decode cX12_grid 12 = .ok (.bipush (-20), 2) := by decide +kernel
theorem dX12_grid_14 : decode cX12_grid 14 = .ok (.bipush 20, 2) := by decide +kernel
theorem dX12_grid_16 : decode cX12_grid 16 = .ok (.invokestatic 3, 3) := by decide +kernel
theorem dX12_grid_19 : decode cX12_grid 19 = .ok (.ifCond .eq 54, 3) := by decide +kernel
theorem dX12_grid_22 : decode cX12_grid 22 = .ok (.iload_n 3, 1) := by decide +kernel
theorem dX12_grid_23 : decode cX12_grid 23 = .ok (.bipush (-20), 2) := by decide +kernel
theorem dX12_grid_25 : decode cX12_grid 25 = .ok (.bipush 20, 2) := by decide +kernel
theorem dX12_grid_27 : decode cX12_grid 27 = .ok (.invokestatic 3, 3) := by decide +kernel
theorem dX12_grid_30 : decode cX12_grid 30 = .ok (.ifCond .eq 43, 3) := by decide +kernel
theorem dX12_grid_33 : decode cX12_grid 33 = .ok (.iload 4, 2) := by decide +kernel
theorem dX12_grid_35 : decode cX12_grid 35 = .ok (.iconst 1, 1) := by decide +kernel
theorem dX12_grid_36 : decode cX12_grid 36 = .ok (.bipush 6, 2) := by decide +kernel
theorem dX12_grid_38 : decode cX12_grid 38 = .ok (.invokestatic 3, 3) := by decide +kernel
theorem dX12_grid_41 : decode cX12_grid 41 = .ok (.ifCond .eq 32, 3) := by decide +kernel
theorem dX12_grid_44 : decode cX12_grid 44 = .ok (.iload 5, 2) := by decide +kernel
theorem dX12_grid_46 : decode cX12_grid 46 = .ok (.iconst 0, 1) := by decide +kernel
theorem dX12_grid_47 : decode cX12_grid 47 = .ok (.bipush 20, 2) := by decide +kernel
theorem dX12_grid_49 : decode cX12_grid 49 = .ok (.invokestatic 3, 3) := by decide +kernel
theorem dX12_grid_52 : decode cX12_grid 52 = .ok (.ifCond .eq 21, 3) := by decide +kernel
theorem dX12_grid_55 : decode cX12_grid 55 = .ok (.aload_n 0, 1) := by decide +kernel
theorem dX12_grid_56 : decode cX12_grid 56 = .ok (.iload_n 1, 1) := by decide +kernel
theorem dX12_grid_57 : decode cX12_grid 57 = .ok (.iload_n 2, 1) := by decide +kernel
theorem dX12_grid_58 : decode cX12_grid 58 = .ok (.iload_n 3, 1) := by decide +kernel
theorem dX12_grid_59 : decode cX12_grid 59 = .ok (.iload 4, 2) := by decide +kernel
theorem dX12_grid_61 : decode cX12_grid 61 = .ok (.iload 5, 2) := by decide +kernel
theorem dX12_grid_63 : decode cX12_grid 63 = .ok (.invokevirtual 500, 3) := by decide +kernel
theorem dX12_grid_66 : decode cX12_grid 66 = .ok (.ifCond .eq 7, 3) := by decide +kernel
theorem dX12_grid_69 : decode cX12_grid 69 = .ok (.iconst 1, 1) := by decide +kernel
theorem dX12_grid_70 : decode cX12_grid 70 = .ok (.goto 4, 3) := by decide +kernel
theorem dX12_grid_73 : decode cX12_grid 73 = .ok (.iconst 0, 1) := by decide +kernel
theorem dX12_grid_74 : decode cX12_grid 74 = .ok (.putfield 504, 3) := by decide +kernel
theorem dX12_grid_77 : decode cX12_grid 77 = .ok (.aload_n 0, 1) := by decide +kernel
theorem dX12_grid_78 : decode cX12_grid 78 = .ok (.getfield 504, 3) := by decide +kernel
theorem dX12_grid_81 : decode cX12_grid 81 = .ok (.ifCond .ne 5, 3) := by decide +kernel
theorem dX12_grid_84 : decode cX12_grid 84 = .ok (.iconst (-1), 1) := by decide +kernel
theorem dX12_grid_85 : decode cX12_grid 85 = .ok (.ireturn, 1) := by decide +kernel
theorem dX12_grid_86 : decode cX12_grid 86 = .ok (.aload_n 0, 1) := by decide +kernel
theorem dX12_grid_87 : decode cX12_grid 87 = .ok (.iload_n 1, 1) := by decide +kernel
theorem dX12_grid_88 : decode cX12_grid 88 = .ok (.putfield 508, 3) := by decide +kernel
theorem dX12_grid_91 : decode cX12_grid 91 = .ok (.aload_n 0, 1) := by decide +kernel
theorem dX12_grid_92 : decode cX12_grid 92 = .ok (.iload_n 2, 1) := by decide +kernel
theorem dX12_grid_93 : decode cX12_grid 93 = .ok (.putfield 511, 3) := by decide +kernel
theorem dX12_grid_96 : decode cX12_grid 96 = .ok (.aload_n 0, 1) := by decide +kernel
theorem dX12_grid_97 : decode cX12_grid 97 = .ok (.iload_n 3, 1) := by decide +kernel
theorem dX12_grid_98 : decode cX12_grid 98 = .ok (.putfield 514, 3) := by decide +kernel
theorem dX12_grid_101 : decode cX12_grid 101 = .ok (.aload_n 0, 1) := by decide +kernel
theorem dX12_grid_102 : decode cX12_grid 102 = .ok (.iload 4, 2) := by decide +kernel
theorem dX12_grid_104 : decode cX12_grid 104 = .ok (.putfield 517, 3) := by decide +kernel
theorem dX12_grid_107 : decode cX12_grid 107 = .ok (.aload_n 0, 1) := by decide +kernel
theorem dX12_grid_108 : decode cX12_grid 108 = .ok (.iload 5, 2) := by decide +kernel
theorem dX12_grid_110 : decode cX12_grid 110 = .ok (.putfield 520, 3) := by decide +kernel
theorem dX12_grid_113 : decode cX12_grid 113 = .ok (.iload_n 1, 1) := by decide +kernel
theorem dX12_grid_114 : decode cX12_grid 114 = .ok (.iload 4, 2) := by decide +kernel
theorem dX12_grid_116 : decode cX12_grid 116 = .ok (.imul, 1) := by decide +kernel
theorem dX12_grid_117 : decode cX12_grid 117 = .ok (.ireturn, 1) := by decide +kernel
theorem dX12_settings_0 : decode cX12_settings 0 = .ok (.aload_n 0, 1) := by decide +kernel
theorem dX12_settings_1 : decode cX12_settings 1 = .ok (.getfield 504, 3) := by decide +kernel
theorem dX12_settings_4 : decode cX12_settings 4 = .ok (.ifCond .eq 15, 3) := by decide +kernel
theorem dX12_settings_7 : decode cX12_settings 7 = .ok (.aload_n 0, 1) := by decide +kernel
theorem dX12_settings_8 : decode cX12_settings 8 = .ok (.getfield 508, 3) := by decide +kernel
theorem dX12_settings_11 : decode cX12_settings 11 = .ok (.aload_n 0, 1) := by decide +kernel
theorem dX12_settings_12 : decode cX12_settings 12 = .ok (.getfield 517, 3) := by decide +kernel
theorem dX12_settings_15 : decode cX12_settings 15 = .ok (.imul, 1) := by decide +kernel
theorem dX12_settings_16 : decode cX12_settings 16 = .ok (.goto 4, 3) := by decide +kernel
theorem dX12_settings_19 : decode cX12_settings 19 = .ok (.iconst 0, 1) := by decide +kernel
theorem dX12_settings_20 : decode cX12_settings 20 = .ok (.ireturn, 1) := by decide +kernel
theorem dX12_sets_0 : decode cX12_sets 0 = .ok (.aload_n 0, 1) := by decide +kernel
theorem dX12_sets_1 : decode cX12_sets 1 = .ok (.aload_n 0, 1) := by decide +kernel
theorem dX12_sets_2 : decode cX12_sets 2 = .ok (.getfield 22, 3) := by decide +kernel
theorem dX12_sets_5 : decode cX12_sets 5 = .ok (.putfield 523, 3) := by decide +kernel
theorem dX12_sets_8 : decode cX12_sets 8 = .ok (.aload_n 0, 1) := by decide +kernel
theorem dX12_sets_9 : decode cX12_sets 9 = .ok (.aload_n 0, 1) := by decide +kernel
theorem dX12_sets_10 : decode cX12_sets 10 = .ok (.getfield 25, 3) := by decide +kernel
theorem dX12_sets_13 : decode cX12_sets 13 = .ok (.putfield 526, 3) := by decide +kernel
theorem dX12_sets_16 : decode cX12_sets 16 = .ok (.aload_n 0, 1) := by decide +kernel
theorem dX12_sets_17 : decode cX12_sets 17 = .ok (.aload_n 0, 1) := by decide +kernel
theorem dX12_sets_18 : decode cX12_sets 18 = .ok (.getfield 46, 3) := by decide +kernel
theorem dX12_sets_21 : decode cX12_sets 21 = .ok (.putfield 529, 3) := by decide +kernel
theorem dX12_sets_24 : decode cX12_sets 24 = .ok (.iload_n 1, 1) := by decide +kernel
theorem dX12_sets_25 : decode cX12_sets 25 = .ok (.aload_n 0, 1) := by decide +kernel
theorem dX12_sets_26 : decode cX12_sets 26 = .ok (.getfield 517, 3) := by decide +kernel
theorem dX12_sets_29 : decode cX12_sets 29 = .ok (.idiv, 1) := by decide +kernel
theorem dX12_sets_30 : decode cX12_sets 30 = .ok (.istore_n 2, 1) := by decide +kernel
theorem dX12_sets_31 : decode cX12_sets 31 = .ok (.iload_n 1, 1) := by decide +kernel
theorem dX12_sets_32 : decode cX12_sets 32 = .ok (.aload_n 0, 1) := by decide +kernel
theorem dX12_sets_33 : decode cX12_sets 33 = .ok (.getfield 517, 3) := by decide +kernel
theorem dX12_sets_36 : decode cX12_sets 36 = .ok (.irem, 1) := by decide +kernel
theorem dX12_sets_37 : decode cX12_sets 37 = .ok (.istore_n 3, 1) := by decide +kernel
theorem dX12_sets_38 : decode cX12_sets 38 = .ok (.aload_n 0, 1) := by decide +kernel
theorem dX12_sets_39 : decode cX12_sets 39 = .ok (.getfield 22, 3) := by decide +kernel
theorem dX12_sets_42 : decode cX12_sets 42 = .ok (.iload_n 2, 1) := by decide +kernel
theorem dX12_sets_43 : decode cX12_sets 43 = .ok (.aload_n 0, 1) := by decide +kernel
theorem dX12_sets_44 : decode cX12_sets 44 = .ok (.getfield 511, 3) := by decide +kernel
theorem dX12_sets_47 : decode cX12_sets 47 = .ok (.imul, 1) := by decide +kernel
theorem dX12_sets_48 : decode cX12_sets 48 = .ok (.iadd, 1) := by decide +kernel
theorem dX12_sets_49 : decode cX12_sets 49 = .ok (.istore 4, 2) := by decide +kernel
theorem dX12_sets_51 : decode cX12_sets 51 = .ok (.aload_n 0, 1) := by decide +kernel
theorem dX12_sets_52 : decode cX12_sets 52 = .ok (.getfield 25, 3) := by decide +kernel
theorem dX12_sets_55 : decode cX12_sets 55 = .ok (.iload_n 2, 1) := by decide +kernel
theorem dX12_sets_56 : decode cX12_sets 56 = .ok (.aload_n 0, 1) := by decide +kernel
theorem dX12_sets_57 : decode cX12_sets 57 = .ok (.getfield 514, 3) := by decide +kernel
theorem dX12_sets_60 : decode cX12_sets 60 = .ok (.imul, 1) := by decide +kernel
theorem dX12_sets_61 : decode cX12_sets 61 = .ok (.iadd, 1) := by decide +kernel
theorem dX12_sets_62 : decode cX12_sets 62 = .ok (.istore 5, 2) := by decide +kernel
theorem dX12_sets_64 : decode cX12_sets 64 = .ok (.iload 4, 2) := by decide +kernel
theorem dX12_sets_66 : decode cX12_sets 66 = .ok (.iload 5, 2) := by decide +kernel
theorem dX12_sets_68 : decode cX12_sets 68 = .ok (.invokestatic 7, 3) := by decide +kernel
theorem dX12_sets_71 : decode cX12_sets 71 = .ok (.ifCond .eq 37, 3) := by decide +kernel
theorem dX12_sets_74 : decode cX12_sets 74 = .ok (.iload 4, 2) := by decide +kernel
theorem dX12_sets_76 : decode cX12_sets 76 = .ok (.aload_n 0, 1) := by decide +kernel
theorem dX12_sets_77 : decode cX12_sets 77 = .ok (.getfield 15, 3) := by decide +kernel
theorem dX12_sets_80 : decode cX12_sets 80 = .ok (.if_icmp .ne 12, 3) := by decide +kernel
theorem dX12_sets_83 : decode cX12_sets 83 = .ok (.iload 5, 2) := by decide +kernel
theorem dX12_sets_85 : decode cX12_sets 85 = .ok (.aload_n 0, 1) := by decide +kernel
theorem dX12_sets_86 : decode cX12_sets 86 = .ok (.getfield 19, 3) := by decide +kernel
theorem dX12_sets_89 : decode cX12_sets 89 = .ok (.if_icmp .eq 19, 3) := by decide +kernel
theorem dX12_sets_92 : decode cX12_sets 92 = .ok (.aload_n 0, 1) := by decide +kernel
theorem dX12_sets_93 : decode cX12_sets 93 = .ok (.getfield 46, 3) := by decide +kernel
theorem dX12_sets_96 : decode cX12_sets 96 = .ok (.iload_n 3, 1) := by decide +kernel
theorem dX12_sets_97 : decode cX12_sets 97 = .ok (.aload_n 0, 1) := by decide +kernel
theorem dX12_sets_98 : decode cX12_sets 98 = .ok (.getfield 520, 3) := by decide +kernel
theorem dX12_sets_101 : decode cX12_sets 101 = .ok (.imul, 1) := by decide +kernel
theorem dX12_sets_102 : decode cX12_sets 102 = .ok (.iadd, 1) := by decide +kernel
theorem dX12_sets_103 : decode cX12_sets 103 = .ok (.bipush 60, 2) := by decide +kernel
theorem dX12_sets_105 : decode cX12_sets 105 = .ok (.if_icmp .le 5, 3) := by decide +kernel
theorem dX12_sets_108 : decode cX12_sets 108 = .ok (.iconst 0, 1) := by decide +kernel
theorem dX12_sets_109 : decode cX12_sets 109 = .ok (.ireturn, 1) := by decide +kernel
theorem dX12_sets_110 : decode cX12_sets 110 = .ok (.aload_n 0, 1) := by decide +kernel
theorem dX12_sets_111 : decode cX12_sets 111 = .ok (.iload 4, 2) := by decide +kernel
theorem dX12_sets_113 : decode cX12_sets 113 = .ok (.putfield 22, 3) := by decide +kernel
theorem dX12_sets_116 : decode cX12_sets 116 = .ok (.aload_n 0, 1) := by decide +kernel
theorem dX12_sets_117 : decode cX12_sets 117 = .ok (.iload 5, 2) := by decide +kernel
theorem dX12_sets_119 : decode cX12_sets 119 = .ok (.putfield 25, 3) := by decide +kernel
theorem dX12_sets_122 : decode cX12_sets 122 = .ok (.aload_n 0, 1) := by decide +kernel
theorem dX12_sets_123 : decode cX12_sets 123 = .ok (.dup, 1) := by decide +kernel
theorem dX12_sets_124 : decode cX12_sets 124 = .ok (.getfield 46, 3) := by decide +kernel
theorem dX12_sets_127 : decode cX12_sets 127 = .ok (.iload_n 3, 1) := by decide +kernel
theorem dX12_sets_128 : decode cX12_sets 128 = .ok (.aload_n 0, 1) := by decide +kernel
theorem dX12_sets_129 : decode cX12_sets 129 = .ok (.getfield 520, 3) := by decide +kernel
theorem dX12_sets_132 : decode cX12_sets 132 = .ok (.imul, 1) := by decide +kernel
theorem dX12_sets_133 : decode cX12_sets 133 = .ok (.iadd, 1) := by decide +kernel
theorem dX12_sets_134 : decode cX12_sets 134 = .ok (.putfield 46, 3) := by decide +kernel
theorem dX12_sets_137 : decode cX12_sets 137 = .ok (.iconst 1, 1) := by decide +kernel
theorem dX12_sets_138 : decode cX12_sets 138 = .ok (.ireturn, 1) := by decide +kernel
theorem dX12_backs_0 : decode cX12_backs 0 = .ok (.aload_n 0, 1) := by decide +kernel
theorem dX12_backs_1 : decode cX12_backs 1 = .ok (.aload_n 0, 1) := by decide +kernel
theorem dX12_backs_2 : decode cX12_backs 2 = .ok (.getfield 523, 3) := by decide +kernel
theorem dX12_backs_5 : decode cX12_backs 5 = .ok (.putfield 22, 3) := by decide +kernel
theorem dX12_backs_8 : decode cX12_backs 8 = .ok (.aload_n 0, 1) := by decide +kernel
theorem dX12_backs_9 : decode cX12_backs 9 = .ok (.aload_n 0, 1) := by decide +kernel
theorem dX12_backs_10 : decode cX12_backs 10 = .ok (.getfield 526, 3) := by decide +kernel
theorem dX12_backs_13 : decode cX12_backs 13 = .ok (.putfield 25, 3) := by decide +kernel
theorem dX12_backs_16 : decode cX12_backs 16 = .ok (.aload_n 0, 1) := by decide +kernel
theorem dX12_backs_17 : decode cX12_backs 17 = .ok (.aload_n 0, 1) := by decide +kernel
theorem dX12_backs_18 : decode cX12_backs 18 = .ok (.getfield 529, 3) := by decide +kernel
theorem dX12_backs_21 : decode cX12_backs 21 = .ok (.putfield 46, 3) := by decide +kernel
theorem dX12_backs_24 : decode cX12_backs 24 = .ok (.return_, 1) := by decide +kernel
theorem dX12_isSetting_0 : decode cX12_isSetting 0 = .ok (.iload_n 1, 1) := by decide +kernel
theorem dX12_isSetting_1 : decode cX12_isSetting 1 = .ok (.iconst 0, 1) := by decide +kernel
theorem dX12_isSetting_2 : decode cX12_isSetting 2 = .ok (.aload_n 0, 1) := by decide +kernel
theorem dX12_isSetting_3 : decode cX12_isSetting 3 = .ok (.invokevirtual 532, 3) := by decide +kernel
theorem dX12_isSetting_6 : decode cX12_isSetting 6 = .ok (.iconst 1, 1) := by decide +kernel
theorem dX12_isSetting_7 : decode cX12_isSetting 7 = .ok (.isub, 1) := by decide +kernel
theorem dX12_isSetting_8 : decode cX12_isSetting 8 = .ok (.invokestatic 3, 3) := by decide +kernel
theorem dX12_isSetting_11 : decode cX12_isSetting 11 = .ok (.ifCond .eq 34, 3) := by decide +kernel
theorem dX12_isSetting_14 : decode cX12_isSetting 14 = .ok (.aload_n 0, 1) := by decide +kernel
theorem dX12_isSetting_15 : decode cX12_isSetting 15 = .ok (.aload_n 0, 1) := by decide +kernel
theorem dX12_isSetting_16 : decode cX12_isSetting 16 = .ok (.getfield 508, 3) := by decide +kernel
theorem dX12_isSetting_19 : decode cX12_isSetting 19 = .ok (.aload_n 0, 1) := by decide +kernel
theorem dX12_isSetting_20 : decode cX12_isSetting 20 = .ok (.getfield 511, 3) := by decide +kernel
theorem dX12_isSetting_23 : decode cX12_isSetting 23 = .ok (.aload_n 0, 1) := by decide +kernel
theorem dX12_isSetting_24 : decode cX12_isSetting 24 = .ok (.getfield 514, 3) := by decide +kernel
theorem dX12_isSetting_27 : decode cX12_isSetting 27 = .ok (.aload_n 0, 1) := by decide +kernel
theorem dX12_isSetting_28 : decode cX12_isSetting 28 = .ok (.getfield 517, 3) := by decide +kernel
theorem dX12_isSetting_31 : decode cX12_isSetting 31 = .ok (.aload_n 0, 1) := by decide +kernel
theorem dX12_isSetting_32 : decode cX12_isSetting 32 = .ok (.getfield 520, 3) := by decide +kernel
theorem dX12_isSetting_35 : decode cX12_isSetting 35 = .ok (.invokevirtual 500, 3) := by decide +kernel
theorem dX12_isSetting_38 : decode cX12_isSetting 38 = .ok (.ifCond .eq 7, 3) := by decide +kernel
theorem dX12_isSetting_41 : decode cX12_isSetting 41 = .ok (.iconst 1, 1) := by decide +kernel
theorem dX12_isSetting_42 : decode cX12_isSetting 42 = .ok (.goto 4, 3) := by decide +kernel
theorem dX12_isSetting_45 : decode cX12_isSetting 45 = .ok (.iconst 0, 1) := by decide +kernel
theorem dX12_isSetting_46 : decode cX12_isSetting 46 = .ok (.ireturn, 1) := by decide +kernel
theorem dX12_triedAt_0 : decode cX12_triedAt 0 = .ok (.aload_n 0, 1) := by decide +kernel
theorem dX12_triedAt_1 : decode cX12_triedAt 1 = .ok (.iload_n 1, 1) := by decide +kernel
theorem dX12_triedAt_2 : decode cX12_triedAt 2 = .ok (.invokevirtual 535, 3) := by decide +kernel
theorem dX12_triedAt_5 : decode cX12_triedAt 5 = .ok (.ifCond .ne 5, 3) := by decide +kernel
theorem dX12_triedAt_8 : decode cX12_triedAt 8 = .ok (.iconst (-1), 1) := by decide +kernel
theorem dX12_triedAt_9 : decode cX12_triedAt 9 = .ok (.ireturn, 1) := by decide +kernel
theorem dX12_triedAt_10 : decode cX12_triedAt 10 = .ok (.aload_n 0, 1) := by decide +kernel
theorem dX12_triedAt_11 : decode cX12_triedAt 11 = .ok (.invokevirtual 538, 3) := by decide +kernel
theorem dX12_triedAt_14 : decode cX12_triedAt 14 = .ok (.istore_n 2, 1) := by decide +kernel
theorem dX12_triedAt_15 : decode cX12_triedAt 15 = .ok (.aload_n 0, 1) := by decide +kernel
theorem dX12_triedAt_16 : decode cX12_triedAt 16 = .ok (.invokevirtual 541, 3) := by decide +kernel
theorem dX12_triedAt_19 : decode cX12_triedAt 19 = .ok (.iload_n 2, 1) := by decide +kernel
theorem dX12_triedAt_20 : decode cX12_triedAt 20 = .ok (.ireturn, 1) := by decide +kernel
theorem dX12_tried_0 : decode cX12_tried 0 = .ok (.aload_n 0, 1) := by decide +kernel
theorem dX12_tried_1 : decode cX12_tried 1 = .ok (.iload_n 1, 1) := by decide +kernel
theorem dX12_tried_2 : decode cX12_tried 2 = .ok (.invokevirtual 544, 3) := by decide +kernel
theorem dX12_tried_5 : decode cX12_tried 5 = .ok (.ifCond .eq 11, 3) := by decide +kernel
theorem dX12_tried_8 : decode cX12_tried 8 = .ok (.aload_n 0, 1) := by decide +kernel
theorem dX12_tried_9 : decode cX12_tried 9 = .ok (.iload_n 1, 1) := by decide +kernel
theorem dX12_tried_10 : decode cX12_tried 10 = .ok (.invokevirtual 547, 3) := by decide +kernel
theorem dX12_tried_13 : decode cX12_tried 13 = .ok (.goto 4, 3) := by decide +kernel
theorem dX12_tried_16 : decode cX12_tried 16 = .ok (.iconst (-1), 1) := by decide +kernel
theorem dX12_tried_17 : decode cX12_tried 17 = .ok (.ireturn, 1) := by decide +kernel
theorem dX12_best_0 : decode cX12_best 0 = .ok (.aload_n 0, 1) := by decide +kernel
theorem dX12_best_1 : decode cX12_best 1 = .ok (.getfield 504, 3) := by decide +kernel
theorem dX12_best_4 : decode cX12_best 4 = .ok (.ifCond .eq 30, 3) := by decide +kernel
theorem dX12_best_7 : decode cX12_best 7 = .ok (.aload_n 0, 1) := by decide +kernel
theorem dX12_best_8 : decode cX12_best 8 = .ok (.aload_n 0, 1) := by decide +kernel
theorem dX12_best_9 : decode cX12_best 9 = .ok (.getfield 508, 3) := by decide +kernel
theorem dX12_best_12 : decode cX12_best 12 = .ok (.aload_n 0, 1) := by decide +kernel
theorem dX12_best_13 : decode cX12_best 13 = .ok (.getfield 511, 3) := by decide +kernel
theorem dX12_best_16 : decode cX12_best 16 = .ok (.aload_n 0, 1) := by decide +kernel
theorem dX12_best_17 : decode cX12_best 17 = .ok (.getfield 514, 3) := by decide +kernel
theorem dX12_best_20 : decode cX12_best 20 = .ok (.aload_n 0, 1) := by decide +kernel
theorem dX12_best_21 : decode cX12_best 21 = .ok (.getfield 517, 3) := by decide +kernel
theorem dX12_best_24 : decode cX12_best 24 = .ok (.aload_n 0, 1) := by decide +kernel
theorem dX12_best_25 : decode cX12_best 25 = .ok (.getfield 520, 3) := by decide +kernel
theorem dX12_best_28 : decode cX12_best 28 = .ok (.invokevirtual 500, 3) := by decide +kernel
theorem dX12_best_31 : decode cX12_best 31 = .ok (.ifCond .ne 5, 3) := by decide +kernel
theorem dX12_best_34 : decode cX12_best 34 = .ok (.iconst (-1), 1) := by decide +kernel
theorem dX12_best_35 : decode cX12_best 35 = .ok (.ireturn, 1) := by decide +kernel
theorem dX12_best_36 : decode cX12_best 36 = .ok (.iconst (-1), 1) := by decide +kernel
theorem dX12_best_37 : decode cX12_best 37 = .ok (.istore_n 1, 1) := by decide +kernel
theorem dX12_best_38 : decode cX12_best 38 = .ok (.iconst (-1), 1) := by decide +kernel
theorem dX12_best_39 : decode cX12_best 39 = .ok (.istore_n 2, 1) := by decide +kernel
theorem dX12_best_40 : decode cX12_best 40 = .ok (.iconst 0, 1) := by decide +kernel
theorem dX12_best_41 : decode cX12_best 41 = .ok (.istore_n 3, 1) := by decide +kernel
theorem dX12_best_42 : decode cX12_best 42 = .ok (.iload_n 3, 1) := by decide +kernel
theorem dX12_best_43 : decode cX12_best 43 = .ok (.aload_n 0, 1) := by decide +kernel
theorem dX12_best_44 : decode cX12_best 44 = .ok (.invokevirtual 532, 3) := by decide +kernel
theorem dX12_best_47 : decode cX12_best 47 = .ok (.if_icmp .ge 30, 3) := by decide +kernel
theorem dX12_best_50 : decode cX12_best 50 = .ok (.aload_n 0, 1) := by decide +kernel
theorem dX12_best_51 : decode cX12_best 51 = .ok (.iload_n 3, 1) := by decide +kernel
theorem dX12_best_52 : decode cX12_best 52 = .ok (.invokevirtual 547, 3) := by decide +kernel
theorem dX12_best_55 : decode cX12_best 55 = .ok (.istore 4, 2) := by decide +kernel
theorem dX12_best_57 : decode cX12_best 57 = .ok (.iload 4, 2) := by decide +kernel
theorem dX12_best_59 : decode cX12_best 59 = .ok (.iload_n 1, 1) := by decide +kernel
theorem dX12_best_60 : decode cX12_best 60 = .ok (.if_icmp .gt 6, 3) := by decide +kernel
theorem dX12_best_63 : decode cX12_best 63 = .ok (.goto 8, 3) := by decide +kernel
theorem dX12_best_66 : decode cX12_best 66 = .ok (.iload 4, 2) := by decide +kernel
theorem dX12_best_68 : decode cX12_best 68 = .ok (.istore_n 1, 1) := by decide +kernel
theorem dX12_best_69 : decode cX12_best 69 = .ok (.iload_n 3, 1) := by decide +kernel
theorem dX12_best_70 : decode cX12_best 70 = .ok (.istore_n 2, 1) := by decide +kernel
theorem dX12_best_71 : decode cX12_best 71 = .ok (.iinc 3 1, 3) := by decide +kernel
theorem dX12_best_74 : decode cX12_best 74 = .ok (.goto (-32), 3) := by decide +kernel
theorem dX12_best_77 : decode cX12_best 77 = .ok (.iload_n 2, 1) := by decide +kernel
theorem dX12_best_78 : decode cX12_best 78 = .ok (.ireturn, 1) := by decide +kernel
theorem dX12_take_0 : decode cX12_take 0 = .ok (.aload_n 0, 1) := by decide +kernel
theorem dX12_take_1 : decode cX12_take 1 = .ok (.iload_n 1, 1) := by decide +kernel
theorem dX12_take_2 : decode cX12_take 2 = .ok (.invokevirtual 544, 3) := by decide +kernel
theorem dX12_take_5 : decode cX12_take 5 = .ok (.ifCond .eq 11, 3) := by decide +kernel
theorem dX12_take_8 : decode cX12_take 8 = .ok (.aload_n 0, 1) := by decide +kernel
theorem dX12_take_9 : decode cX12_take 9 = .ok (.iload_n 1, 1) := by decide +kernel
theorem dX12_take_10 : decode cX12_take 10 = .ok (.invokevirtual 535, 3) := by decide +kernel
theorem dX12_take_13 : decode cX12_take 13 = .ok (.ifCond .ne 5, 3) := by decide +kernel
theorem dX12_take_16 : decode cX12_take 16 = .ok (.iconst 0, 1) := by decide +kernel
theorem dX12_take_17 : decode cX12_take 17 = .ok (.ireturn, 1) := by decide +kernel
theorem dX12_take_18 : decode cX12_take 18 = .ok (.aload_n 0, 1) := by decide +kernel
theorem dX12_take_19 : decode cX12_take 19 = .ok (.iconst 0, 1) := by decide +kernel
theorem dX12_take_20 : decode cX12_take 20 = .ok (.putfield 504, 3) := by decide +kernel
theorem dX12_take_23 : decode cX12_take 23 = .ok (.iconst 1, 1) := by decide +kernel
theorem dX12_take_24 : decode cX12_take 24 = .ok (.ireturn, 1) := by decide +kernel
theorem dX12_mayJoin_0 : decode cX12_mayJoin 0 = .ok (.iload_n 1, 1) := by decide +kernel
theorem dX12_mayJoin_1 : decode cX12_mayJoin 1 = .ok (.iload_n 2, 1) := by decide +kernel
theorem dX12_mayJoin_2 : decode cX12_mayJoin 2 = .ok (.isub, 1) := by decide +kernel
theorem dX12_mayJoin_3 : decode cX12_mayJoin 3 = .ok (.iconst 1, 1) := by decide +kernel
theorem dX12_mayJoin_4 : decode cX12_mayJoin 4 = .ok (.iadd, 1) := by decide +kernel
theorem dX12_mayJoin_5 : decode cX12_mayJoin 5 = .ok (.istore_n 3, 1) := by decide +kernel
theorem dX12_mayJoin_6 : decode cX12_mayJoin 6 = .ok (.iload_n 3, 1) := by decide +kernel
theorem dX12_mayJoin_7 : decode cX12_mayJoin 7 = .ok (.iload_n 1, 1) := by decide +kernel
theorem dX12_mayJoin_8 : decode cX12_mayJoin 8 = .ok (.iload_n 2, 1) := by decide +kernel
theorem dX12_mayJoin_9 : decode cX12_mayJoin 9 = .ok (.iadd, 1) := by decide +kernel
theorem dX12_mayJoin_10 : decode cX12_mayJoin 10 = .ok (.if_icmp .ge 31, 3) := by decide +kernel
theorem dX12_mayJoin_13 : decode cX12_mayJoin 13 = .ok (.iload_n 3, 1) := by decide +kernel
theorem dX12_mayJoin_14 : decode cX12_mayJoin 14 = .ok (.ifCond .lt 21, 3) := by decide +kernel
theorem dX12_mayJoin_17 : decode cX12_mayJoin 17 = .ok (.iload_n 3, 1) := by decide +kernel
theorem dX12_mayJoin_18 : decode cX12_mayJoin 18 = .ok (.sipush 1000, 3) := by decide +kernel
theorem dX12_mayJoin_21 : decode cX12_mayJoin 21 = .ok (.if_icmp .gt 14, 3) := by decide +kernel
theorem dX12_mayJoin_24 : decode cX12_mayJoin 24 = .ok (.aload_n 0, 1) := by decide +kernel
theorem dX12_mayJoin_25 : decode cX12_mayJoin 25 = .ok (.getfield 405, 3) := by decide +kernel
theorem dX12_mayJoin_28 : decode cX12_mayJoin 28 = .ok (.iload_n 3, 1) := by decide +kernel
theorem dX12_mayJoin_29 : decode cX12_mayJoin 29 = .ok (.baload, 1) := by decide +kernel
theorem dX12_mayJoin_30 : decode cX12_mayJoin 30 = .ok (.ifCond .eq 5, 3) := by decide +kernel
theorem dX12_mayJoin_33 : decode cX12_mayJoin 33 = .ok (.iconst 0, 1) := by decide +kernel
theorem dX12_mayJoin_34 : decode cX12_mayJoin 34 = .ok (.ireturn, 1) := by decide +kernel
theorem dX12_mayJoin_35 : decode cX12_mayJoin 35 = .ok (.iinc 3 1, 3) := by decide +kernel
theorem dX12_mayJoin_38 : decode cX12_mayJoin 38 = .ok (.goto (-32), 3) := by decide +kernel
theorem dX12_mayJoin_41 : decode cX12_mayJoin 41 = .ok (.iconst 1, 1) := by decide +kernel
theorem dX12_mayJoin_42 : decode cX12_mayJoin 42 = .ok (.ireturn, 1) := by decide +kernel
theorem dX12_notesFaces_0 : decode cX12_notesFaces 0 = .ok (.iconst 0, 1) := by decide +kernel
theorem dX12_notesFaces_1 : decode cX12_notesFaces 1 = .ok (.istore_n 1, 1) := by decide +kernel
theorem dX12_notesFaces_2 : decode cX12_notesFaces 2 = .ok (.iload_n 1, 1) := by decide +kernel
theorem dX12_notesFaces_3 : decode cX12_notesFaces 3 = .ok (.sipush 1000, 3) := by decide +kernel
theorem dX12_notesFaces_6 : decode cX12_notesFaces 6 = .ok (.if_icmp .gt 16, 3) := by decide +kernel
theorem dX12_notesFaces_9 : decode cX12_notesFaces 9 = .ok (.aload_n 0, 1) := by decide +kernel
theorem dX12_notesFaces_10 : decode cX12_notesFaces 10 = .ok (.getfield 405, 3) := by decide +kernel
theorem dX12_notesFaces_13 : decode cX12_notesFaces 13 = .ok (.iload_n 1, 1) := by decide +kernel
theorem dX12_notesFaces_14 : decode cX12_notesFaces 14 = .ok (.iconst 0, 1) := by decide +kernel
theorem dX12_notesFaces_15 : decode cX12_notesFaces 15 = .ok (.bastore, 1) := by decide +kernel
theorem dX12_notesFaces_16 : decode cX12_notesFaces 16 = .ok (.iinc 1 1, 3) := by decide +kernel
theorem dX12_notesFaces_19 : decode cX12_notesFaces 19 = .ok (.goto (-17), 3) := by decide +kernel
theorem dX12_notesFaces_22 : decode cX12_notesFaces 22 = .ok (.iconst 0, 1) := by decide +kernel
theorem dX12_notesFaces_23 : decode cX12_notesFaces 23 = .ok (.istore_n 1, 1) := by decide +kernel
theorem dX12_notesFaces_24 : decode cX12_notesFaces 24 = .ok (.iload_n 1, 1) := by decide +kernel
theorem dX12_notesFaces_25 : decode cX12_notesFaces 25 = .ok (.bipush 8, 2) := by decide +kernel
theorem dX12_notesFaces_27 : decode cX12_notesFaces 27 = .ok (.if_icmp .ge 63, 3) := by decide +kernel
theorem dX12_notesFaces_30 : decode cX12_notesFaces 30 = .ok (.iconst 0, 1) := by decide +kernel
theorem dX12_notesFaces_31 : decode cX12_notesFaces 31 = .ok (.istore_n 2, 1) := by decide +kernel
theorem dX12_notesFaces_32 : decode cX12_notesFaces 32 = .ok (.iload_n 2, 1) := by decide +kernel
theorem dX12_notesFaces_33 : decode cX12_notesFaces 33 = .ok (.aload_n 0, 1) := by decide +kernel
theorem dX12_notesFaces_34 : decode cX12_notesFaces 34 = .ok (.getfield 464, 3) := by decide +kernel
theorem dX12_notesFaces_37 : decode cX12_notesFaces 37 = .ok (.if_icmp .gt 47, 3) := by decide +kernel
theorem dX12_notesFaces_40 : decode cX12_notesFaces 40 = .ok (.aload_n 0, 1) := by decide +kernel
theorem dX12_notesFaces_41 : decode cX12_notesFaces 41 = .ok (.getfield 49, 3) := by decide +kernel
theorem dX12_notesFaces_44 : decode cX12_notesFaces 44 = .ok (.iload_n 1, 1) := by decide +kernel
theorem dX12_notesFaces_45 : decode cX12_notesFaces 45 = .ok (.baload, 1) := by decide +kernel
theorem dX12_notesFaces_46 : decode cX12_notesFaces 46 = .ok (.ifCond .eq 32, 3) := by decide +kernel
theorem dX12_notesFaces_49 : decode cX12_notesFaces 49 = .ok (.aload_n 0, 1) := by decide +kernel
theorem dX12_notesFaces_50 : decode cX12_notesFaces 50 = .ok (.getfield 387, 3) := by decide +kernel
theorem dX12_notesFaces_53 : decode cX12_notesFaces 53 = .ok (.iload_n 2, 1) := by decide +kernel
theorem dX12_notesFaces_54 : decode cX12_notesFaces 54 = .ok (.iaload, 1) := by decide +kernel
theorem dX12_notesFaces_55 : decode cX12_notesFaces 55 = .ok (.iconst 1, 1) := by decide +kernel
theorem dX12_notesFaces_56 : decode cX12_notesFaces 56 = .ok (.if_icmp .ne 22, 3) := by decide +kernel
theorem dX12_notesFaces_59 : decode cX12_notesFaces 59 = .ok (.aload_n 0, 1) := by decide +kernel
theorem dX12_notesFaces_60 : decode cX12_notesFaces 60 = .ok (.iload_n 1, 1) := by decide +kernel
theorem dX12_notesFaces_61 : decode cX12_notesFaces 61 = .ok (.iload_n 2, 1) := by decide +kernel
theorem dX12_notesFaces_62 : decode cX12_notesFaces 62 = .ok (.invokevirtual 491, 3) := by decide +kernel
theorem dX12_notesFaces_65 : decode cX12_notesFaces 65 = .ok (.ifCond .eq 13, 3) := by decide +kernel
theorem dX12_notesFaces_68 : decode cX12_notesFaces 68 = .ok (.aload_n 0, 1) := by decide +kernel
theorem dX12_notesFaces_69 : decode cX12_notesFaces 69 = .ok (.getfield 405, 3) := by decide +kernel
theorem dX12_notesFaces_72 : decode cX12_notesFaces 72 = .ok (.aload_n 0, 1) := by decide +kernel
theorem dX12_notesFaces_73 : decode cX12_notesFaces 73 = .ok (.invokevirtual 179, 3) := by decide +kernel
theorem dX12_notesFaces_76 : decode cX12_notesFaces 76 = .ok (.iconst 1, 1) := by decide +kernel
theorem dX12_notesFaces_77 : decode cX12_notesFaces 77 = .ok (.bastore, 1) := by decide +kernel
theorem dX12_notesFaces_78 : decode cX12_notesFaces 78 = .ok (.iinc 2 1, 3) := by decide +kernel
theorem dX12_notesFaces_81 : decode cX12_notesFaces 81 = .ok (.goto (-49), 3) := by decide +kernel
theorem dX12_notesFaces_84 : decode cX12_notesFaces 84 = .ok (.iinc 1 1, 3) := by decide +kernel
theorem dX12_notesFaces_87 : decode cX12_notesFaces 87 = .ok (.goto (-63), 3) := by decide +kernel
theorem dX12_notesFaces_90 : decode cX12_notesFaces 90 = .ok (.return_, 1) := by decide +kernel
theorem dX12_joins_0 : decode cX12_joins 0 = .ok (.iload_n 1, 1) := by decide +kernel
theorem dX12_joins_1 : decode cX12_joins 1 = .ok (.iconst 1, 1) := by decide +kernel
theorem dX12_joins_2 : decode cX12_joins 2 = .ok (.sipush 1000, 3) := by decide +kernel
theorem dX12_joins_5 : decode cX12_joins 5 = .ok (.invokestatic 3, 3) := by decide +kernel
theorem dX12_joins_8 : decode cX12_joins 8 = .ok (.ifCond .eq 13, 3) := by decide +kernel
theorem dX12_joins_11 : decode cX12_joins 11 = .ok (.iload_n 2, 1) := by decide +kernel
theorem dX12_joins_12 : decode cX12_joins 12 = .ok (.iconst 0, 1) := by decide +kernel
theorem dX12_joins_13 : decode cX12_joins 13 = .ok (.bipush 100, 2) := by decide +kernel
theorem dX12_joins_15 : decode cX12_joins 15 = .ok (.invokestatic 3, 3) := by decide +kernel
theorem dX12_joins_18 : decode cX12_joins 18 = .ok (.ifCond .ne 5, 3) := by decide +kernel
theorem dX12_joins_21 : decode cX12_joins 21 = .ok (.iconst (-1), 1) := by decide +kernel
theorem dX12_joins_22 : decode cX12_joins 22 = .ok (.ireturn, 1) := by decide +kernel
theorem dX12_joins_23 : decode cX12_joins 23 = .ok (.aload_n 0, 1) := by decide +kernel
theorem dX12_joins_24 : decode cX12_joins 24 = .ok (.invokevirtual 550, 3) := by decide +kernel
theorem dX12_joins_27 : decode cX12_joins 27 = .ok (.iconst 0, 1) := by decide +kernel
theorem dX12_joins_28 : decode cX12_joins 28 = .ok (.istore_n 3, 1) := by decide +kernel
theorem dX12_joins_29 : decode cX12_joins 29 = .ok (.iconst 0, 1) := by decide +kernel
theorem dX12_joins_30 : decode cX12_joins 30 = .ok (.istore 4, 2) := by decide +kernel
theorem dX12_joins_32 : decode cX12_joins 32 = .ok (.iload 4, 2) := by decide +kernel
theorem dX12_joins_34 : decode cX12_joins 34 = .ok (.iload_n 1, 1) := by decide +kernel
theorem dX12_joins_35 : decode cX12_joins 35 = .ok (.iadd, 1) := by decide +kernel
theorem dX12_joins_36 : decode cX12_joins 36 = .ok (.sipush 1000, 3) := by decide +kernel
theorem dX12_joins_39 : decode cX12_joins 39 = .ok (.if_icmp .ge 60, 3) := by decide +kernel
theorem dX12_joins_42 : decode cX12_joins 42 = .ok (.iload 4, 2) := by decide +kernel
theorem dX12_joins_44 : decode cX12_joins 44 = .ok (.iload_n 1, 1) := by decide +kernel
theorem dX12_joins_45 : decode cX12_joins 45 = .ok (.iadd, 1) := by decide +kernel
theorem dX12_joins_46 : decode cX12_joins 46 = .ok (.istore 5, 2) := by decide +kernel
theorem dX12_joins_48 : decode cX12_joins 48 = .ok (.iload 5, 2) := by decide +kernel
theorem dX12_joins_50 : decode cX12_joins 50 = .ok (.iload 4, 2) := by decide +kernel
theorem dX12_joins_52 : decode cX12_joins 52 = .ok (.if_icmp .le 19, 3) := by decide +kernel
theorem dX12_joins_55 : decode cX12_joins 55 = .ok (.aload_n 0, 1) := by decide +kernel
theorem dX12_joins_56 : decode cX12_joins 56 = .ok (.iload 5, 2) := by decide +kernel
theorem dX12_joins_58 : decode cX12_joins 58 = .ok (.iload_n 2, 1) := by decide +kernel
theorem dX12_joins_59 : decode cX12_joins 59 = .ok (.invokevirtual 553, 3) := by decide +kernel
theorem dX12_joins_62 : decode cX12_joins 62 = .ok (.ifCond .ne 9, 3) := by decide +kernel
theorem dX12_joins_65 : decode cX12_joins 65 = .ok (.iinc 5 (-1), 3) := by decide +kernel
theorem dX12_joins_68 : decode cX12_joins 68 = .ok (.goto (-20), 3) := by decide +kernel
theorem dX12_joins_71 : decode cX12_joins 71 = .ok (.iload 5, 2) := by decide +kernel
theorem dX12_joins_73 : decode cX12_joins 73 = .ok (.iload 4, 2) := by decide +kernel
theorem dX12_joins_75 : decode cX12_joins 75 = .ok (.if_icmp .ne 6, 3) := by decide +kernel
theorem dX12_joins_78 : decode cX12_joins 78 = .ok (.bipush (-2), 2) := by decide +kernel
theorem dX12_joins_80 : decode cX12_joins 80 = .ok (.ireturn, 1) := by decide +kernel
theorem dX12_joins_81 : decode cX12_joins 81 = .ok (.aload_n 0, 1) := by decide +kernel
theorem dX12_joins_82 : decode cX12_joins 82 = .ok (.getfield 408, 3) := by decide +kernel
theorem dX12_joins_85 : decode cX12_joins 85 = .ok (.iload_n 3, 1) := by decide +kernel
theorem dX12_joins_86 : decode cX12_joins 86 = .ok (.iload 5, 2) := by decide +kernel
theorem dX12_joins_88 : decode cX12_joins 88 = .ok (.iastore, 1) := by decide +kernel
theorem dX12_joins_89 : decode cX12_joins 89 = .ok (.iinc 3 1, 3) := by decide +kernel
theorem dX12_joins_92 : decode cX12_joins 92 = .ok (.iload 5, 2) := by decide +kernel
theorem dX12_joins_94 : decode cX12_joins 94 = .ok (.istore 4, 2) := by decide +kernel
theorem dX12_joins_96 : decode cX12_joins 96 = .ok (.goto (-64), 3) := by decide +kernel
theorem dX12_joins_99 : decode cX12_joins 99 = .ok (.aload_n 0, 1) := by decide +kernel
theorem dX12_joins_100 : decode cX12_joins 100 = .ok (.iload_n 3, 1) := by decide +kernel
theorem dX12_joins_101 : decode cX12_joins 101 = .ok (.putfield 556, 3) := by decide +kernel
theorem dX12_joins_104 : decode cX12_joins 104 = .ok (.iconst 0, 1) := by decide +kernel
theorem dX12_joins_105 : decode cX12_joins 105 = .ok (.istore 5, 2) := by decide +kernel
theorem dX12_joins_107 : decode cX12_joins 107 = .ok (.iload 5, 2) := by decide +kernel
theorem dX12_joins_109 : decode cX12_joins 109 = .ok (.iload_n 3, 1) := by decide +kernel
theorem dX12_joins_110 : decode cX12_joins 110 = .ok (.if_icmp .ge 23, 3) := by decide +kernel
theorem dX12_joins_113 : decode cX12_joins 113 = .ok (.aload_n 0, 1) := by decide +kernel
theorem dX12_joins_114 : decode cX12_joins 114 = .ok (.getfield 402, 3) := by decide +kernel
theorem dX12_joins_117 : decode cX12_joins 117 = .ok (.iload 5, 2) := by decide +kernel
theorem dX12_joins_119 : decode cX12_joins 119 = .ok (.aload_n 0, 1) := by decide +kernel
theorem dX12_joins_120 : decode cX12_joins 120 = .ok (.getfield 408, 3) := by decide +kernel
theorem dX12_joins_123 : decode cX12_joins 123 = .ok (.iload 5, 2) := by decide +kernel
theorem dX12_joins_125 : decode cX12_joins 125 = .ok (.iaload, 1) := by decide +kernel
theorem dX12_joins_126 : decode cX12_joins 126 = .ok (.iastore, 1) := by decide +kernel
theorem dX12_joins_127 : decode cX12_joins 127 = .ok (.iinc 5 1, 3) := by decide +kernel
theorem dX12_joins_130 : decode cX12_joins 130 = .ok (.goto (-23), 3) := by decide +kernel
theorem dX12_joins_133 : decode cX12_joins 133 = .ok (.iload_n 3, 1) := by decide +kernel
theorem dX12_joins_134 : decode cX12_joins 134 = .ok (.ireturn, 1) := by decide +kernel
theorem dX12_join_0 : decode cX12_join 0 = .ok (.iload_n 1, 1) := by decide +kernel
theorem dX12_join_1 : decode cX12_join 1 = .ok (.ifCond .lt 20, 3) := by decide +kernel
theorem dX12_join_4 : decode cX12_join 4 = .ok (.iload_n 1, 1) := by decide +kernel
theorem dX12_join_5 : decode cX12_join 5 = .ok (.aload_n 0, 1) := by decide +kernel
theorem dX12_join_6 : decode cX12_join 6 = .ok (.getfield 556, 3) := by decide +kernel
theorem dX12_join_9 : decode cX12_join 9 = .ok (.if_icmp .ge 12, 3) := by decide +kernel
theorem dX12_join_12 : decode cX12_join 12 = .ok (.aload_n 0, 1) := by decide +kernel
theorem dX12_join_13 : decode cX12_join 13 = .ok (.getfield 402, 3) := by decide +kernel
theorem dX12_join_16 : decode cX12_join 16 = .ok (.iload_n 1, 1) := by decide +kernel
theorem dX12_join_17 : decode cX12_join 17 = .ok (.iaload, 1) := by decide +kernel
theorem dX12_join_18 : decode cX12_join 18 = .ok (.goto 4, 3) := by decide +kernel
theorem dX12_join_21 : decode cX12_join 21 = .ok (.iconst (-1), 1) := by decide +kernel
theorem dX12_join_22 : decode cX12_join 22 = .ok (.ireturn, 1) := by decide +kernel
theorem dX12_report_0 : decode cX12_report 0 = .ok (.iload_n 1, 1) := by decide +kernel
theorem dX12_report_1 : decode cX12_report 1 = .ok (.iconst 0, 1) := by decide +kernel
theorem dX12_report_2 : decode cX12_report 2 = .ok (.bipush 7, 2) := by decide +kernel
theorem dX12_report_4 : decode cX12_report 4 = .ok (.invokestatic 3, 3) := by decide +kernel
theorem dX12_report_7 : decode cX12_report 7 = .ok (.ifCond .eq 23, 3) := by decide +kernel
theorem dX12_report_10 : decode cX12_report 10 = .ok (.iload_n 2, 1) := by decide +kernel
theorem dX12_report_11 : decode cX12_report 11 = .ok (.iconst 0, 1) := by decide +kernel
theorem dX12_report_12 : decode cX12_report 12 = .ok (.sipush 240, 3) := by decide +kernel
theorem dX12_report_15 : decode cX12_report 15 = .ok (.invokestatic 3, 3) := by decide +kernel
theorem dX12_report_18 : decode cX12_report 18 = .ok (.ifCond .eq 12, 3) := by decide +kernel
theorem dX12_report_21 : decode cX12_report 21 = .ok (.aload_n 0, 1) := by decide +kernel
theorem dX12_report_22 : decode cX12_report 22 = .ok (.getfield 559, 3) := by decide +kernel
theorem dX12_report_25 : decode cX12_report 25 = .ok (.bipush 100, 2) := by decide +kernel
theorem dX12_report_27 : decode cX12_report 27 = .ok (.if_icmp .ne 5, 3) := by decide +kernel
theorem dX12_report_30 : decode cX12_report 30 = .ok (.iconst (-1), 1) := by decide +kernel
theorem dX12_report_31 : decode cX12_report 31 = .ok (.ireturn, 1) := by decide +kernel
theorem dX12_report_32 : decode cX12_report 32 = .ok (.aload_n 0, 1) := by decide +kernel
theorem dX12_report_33 : decode cX12_report 33 = .ok (.dup, 1) := by decide +kernel
theorem dX12_report_34 : decode cX12_report 34 = .ok (.getfield 559, 3) := by decide +kernel
theorem dX12_report_37 : decode cX12_report 37 = .ok (.iconst 1, 1) := by decide +kernel
theorem dX12_report_38 : decode cX12_report 38 = .ok (.iadd, 1) := by decide +kernel
theorem dX12_report_39 : decode cX12_report 39 = .ok (.putfield 559, 3) := by decide +kernel
theorem dX12_report_42 : decode cX12_report 42 = .ok (.aload_n 0, 1) := by decide +kernel
theorem dX12_report_43 : decode cX12_report 43 = .ok (.getfield 411, 3) := by decide +kernel
theorem dX12_report_46 : decode cX12_report 46 = .ok (.aload_n 0, 1) := by decide +kernel
theorem dX12_report_47 : decode cX12_report 47 = .ok (.getfield 559, 3) := by decide +kernel
theorem dX12_report_50 : decode cX12_report 50 = .ok (.iload_n 1, 1) := by decide +kernel
theorem dX12_report_51 : decode cX12_report 51 = .ok (.iastore, 1) := by decide +kernel
theorem dX12_report_52 : decode cX12_report 52 = .ok (.aload_n 0, 1) := by decide +kernel
theorem dX12_report_53 : decode cX12_report 53 = .ok (.getfield 414, 3) := by decide +kernel
theorem dX12_report_56 : decode cX12_report 56 = .ok (.aload_n 0, 1) := by decide +kernel
theorem dX12_report_57 : decode cX12_report 57 = .ok (.getfield 559, 3) := by decide +kernel
theorem dX12_report_60 : decode cX12_report 60 = .ok (.iload_n 2, 1) := by decide +kernel
theorem dX12_report_61 : decode cX12_report 61 = .ok (.iastore, 1) := by decide +kernel
theorem dX12_report_62 : decode cX12_report 62 = .ok (.aload_n 0, 1) := by decide +kernel
theorem dX12_report_63 : decode cX12_report 63 = .ok (.getfield 417, 3) := by decide +kernel
theorem dX12_report_66 : decode cX12_report 66 = .ok (.aload_n 0, 1) := by decide +kernel
theorem dX12_report_67 : decode cX12_report 67 = .ok (.getfield 559, 3) := by decide +kernel
theorem dX12_report_70 : decode cX12_report 70 = .ok (.iload_n 3, 1) := by decide +kernel
theorem dX12_report_71 : decode cX12_report 71 = .ok (.ifCond .eq 7, 3) := by decide +kernel
theorem dX12_report_74 : decode cX12_report 74 = .ok (.iconst 1, 1) := by decide +kernel
theorem dX12_report_75 : decode cX12_report 75 = .ok (.goto 4, 3) := by decide +kernel
theorem dX12_report_78 : decode cX12_report 78 = .ok (.iconst 0, 1) := by decide +kernel
theorem dX12_report_79 : decode cX12_report 79 = .ok (.iastore, 1) := by decide +kernel
theorem dX12_report_80 : decode cX12_report 80 = .ok (.aload_n 0, 1) := by decide +kernel
theorem dX12_report_81 : decode cX12_report 81 = .ok (.getfield 420, 3) := by decide +kernel
theorem dX12_report_84 : decode cX12_report 84 = .ok (.aload_n 0, 1) := by decide +kernel
theorem dX12_report_85 : decode cX12_report 85 = .ok (.getfield 559, 3) := by decide +kernel
theorem dX12_report_88 : decode cX12_report 88 = .ok (.iconst 0, 1) := by decide +kernel
theorem dX12_report_89 : decode cX12_report 89 = .ok (.iastore, 1) := by decide +kernel
theorem dX12_report_90 : decode cX12_report 90 = .ok (.aload_n 0, 1) := by decide +kernel
theorem dX12_report_91 : decode cX12_report 91 = .ok (.getfield 559, 3) := by decide +kernel
theorem dX12_report_94 : decode cX12_report 94 = .ok (.ireturn, 1) := by decide +kernel
theorem dX12_void__0 : decode cX12_void_ 0 = .ok (.iload_n 1, 1) := by decide +kernel
theorem dX12_void__1 : decode cX12_void_ 1 = .ok (.iconst 1, 1) := by decide +kernel
theorem dX12_void__2 : decode cX12_void_ 2 = .ok (.aload_n 0, 1) := by decide +kernel
theorem dX12_void__3 : decode cX12_void_ 3 = .ok (.getfield 559, 3) := by decide +kernel
theorem dX12_void__6 : decode cX12_void_ 6 = .ok (.invokestatic 3, 3) := by decide +kernel
theorem dX12_void__9 : decode cX12_void_ 9 = .ok (.ifCond .eq 31, 3) := by decide +kernel
theorem dX12_void__12 : decode cX12_void_ 12 = .ok (.aload_n 0, 1) := by decide +kernel
theorem dX12_void__13 : decode cX12_void_ 13 = .ok (.getfield 417, 3) := by decide +kernel
theorem dX12_void__16 : decode cX12_void_ 16 = .ok (.iload_n 1, 1) := by decide +kernel
theorem dX12_void__17 : decode cX12_void_ 17 = .ok (.iaload, 1) := by decide +kernel
theorem dX12_void__18 : decode cX12_void_ 18 = .ok (.iconst (-1), 1) := by decide +kernel
theorem dX12_void__19 : decode cX12_void_ 19 = .ok (.if_icmp .eq 21, 3) := by decide +kernel
theorem dX12_void__22 : decode cX12_void_ 22 = .ok (.aload_n 0, 1) := by decide +kernel
theorem dX12_void__23 : decode cX12_void_ 23 = .ok (.getfield 420, 3) := by decide +kernel
theorem dX12_void__26 : decode cX12_void_ 26 = .ok (.iload_n 1, 1) := by decide +kernel
theorem dX12_void__27 : decode cX12_void_ 27 = .ok (.iaload, 1) := by decide +kernel
theorem dX12_void__28 : decode cX12_void_ 28 = .ok (.ifCond .ne 12, 3) := by decide +kernel
theorem dX12_void__31 : decode cX12_void_ 31 = .ok (.aload_n 0, 1) := by decide +kernel
theorem dX12_void__32 : decode cX12_void_ 32 = .ok (.getfield 559, 3) := by decide +kernel
theorem dX12_void__35 : decode cX12_void_ 35 = .ok (.bipush 100, 2) := by decide +kernel
theorem dX12_void__37 : decode cX12_void_ 37 = .ok (.if_icmp .ne 5, 3) := by decide +kernel
theorem dX12_void__40 : decode cX12_void_ 40 = .ok (.iconst (-1), 1) := by decide +kernel
theorem dX12_void__41 : decode cX12_void_ 41 = .ok (.ireturn, 1) := by decide +kernel
theorem dX12_void__42 : decode cX12_void_ 42 = .ok (.aload_n 0, 1) := by decide +kernel
theorem dX12_void__43 : decode cX12_void_ 43 = .ok (.dup, 1) := by decide +kernel
theorem dX12_void__44 : decode cX12_void_ 44 = .ok (.getfield 559, 3) := by decide +kernel
theorem dX12_void__47 : decode cX12_void_ 47 = .ok (.iconst 1, 1) := by decide +kernel
theorem dX12_void__48 : decode cX12_void_ 48 = .ok (.iadd, 1) := by decide +kernel
theorem dX12_void__49 : decode cX12_void_ 49 = .ok (.putfield 559, 3) := by decide +kernel
theorem dX12_void__52 : decode cX12_void_ 52 = .ok (.aload_n 0, 1) := by decide +kernel
theorem dX12_void__53 : decode cX12_void_ 53 = .ok (.getfield 417, 3) := by decide +kernel
theorem dX12_void__56 : decode cX12_void_ 56 = .ok (.aload_n 0, 1) := by decide +kernel
theorem dX12_void__57 : decode cX12_void_ 57 = .ok (.getfield 559, 3) := by decide +kernel
theorem dX12_void__60 : decode cX12_void_ 60 = .ok (.iconst (-1), 1) := by decide +kernel
theorem dX12_void__61 : decode cX12_void_ 61 = .ok (.iastore, 1) := by decide +kernel
theorem dX12_void__62 : decode cX12_void_ 62 = .ok (.aload_n 0, 1) := by decide +kernel
theorem dX12_void__63 : decode cX12_void_ 63 = .ok (.getfield 420, 3) := by decide +kernel
theorem dX12_void__66 : decode cX12_void_ 66 = .ok (.aload_n 0, 1) := by decide +kernel
theorem dX12_void__67 : decode cX12_void_ 67 = .ok (.getfield 559, 3) := by decide +kernel
theorem dX12_void__70 : decode cX12_void_ 70 = .ok (.iconst 0, 1) := by decide +kernel
theorem dX12_void__71 : decode cX12_void_ 71 = .ok (.iastore, 1) := by decide +kernel
theorem dX12_void__72 : decode cX12_void_ 72 = .ok (.aload_n 0, 1) := by decide +kernel
theorem dX12_void__73 : decode cX12_void_ 73 = .ok (.getfield 420, 3) := by decide +kernel
theorem dX12_void__76 : decode cX12_void_ 76 = .ok (.iload_n 1, 1) := by decide +kernel
theorem dX12_void__77 : decode cX12_void_ 77 = .ok (.aload_n 0, 1) := by decide +kernel
theorem dX12_void__78 : decode cX12_void_ 78 = .ok (.getfield 559, 3) := by decide +kernel
theorem dX12_void__81 : decode cX12_void_ 81 = .ok (.iastore, 1) := by decide +kernel
theorem dX12_void__82 : decode cX12_void_ 82 = .ok (.aload_n 0, 1) := by decide +kernel
theorem dX12_void__83 : decode cX12_void_ 83 = .ok (.getfield 559, 3) := by decide +kernel
theorem dX12_void__86 : decode cX12_void_ 86 = .ok (.ireturn, 1) := by decide +kernel
theorem dX12_notesQuarrels_0 : decode cX12_notesQuarrels 0 = .ok (.aload_n 0, 1) := by decide +kernel
theorem dX12_notesQuarrels_1 : decode cX12_notesQuarrels 1 = .ok (.iload_n 1, 1) := by decide +kernel
theorem dX12_notesQuarrels_2 : decode cX12_notesQuarrels 2 = .ok (.invokevirtual 535, 3) := by decide +kernel
theorem dX12_notesQuarrels_5 : decode cX12_notesQuarrels 5 = .ok (.ifCond .ne 5, 3) := by decide +kernel
theorem dX12_notesQuarrels_8 : decode cX12_notesQuarrels 8 = .ok (.iconst 0, 1) := by decide +kernel
theorem dX12_notesQuarrels_9 : decode cX12_notesQuarrels 9 = .ok (.ireturn, 1) := by decide +kernel
theorem dX12_notesQuarrels_10 : decode cX12_notesQuarrels 10 = .ok (.iconst 1, 1) := by decide +kernel
theorem dX12_notesQuarrels_11 : decode cX12_notesQuarrels 11 = .ok (.istore_n 2, 1) := by decide +kernel
theorem dX12_notesQuarrels_12 : decode cX12_notesQuarrels 12 = .ok (.iload_n 2, 1) := by decide +kernel
theorem dX12_notesQuarrels_13 : decode cX12_notesQuarrels 13 = .ok (.aload_n 0, 1) := by decide +kernel
theorem dX12_notesQuarrels_14 : decode cX12_notesQuarrels 14 = .ok (.getfield 559, 3) := by decide +kernel
theorem dX12_notesQuarrels_17 : decode cX12_notesQuarrels 17 = .ok (.if_icmp .gt 111, 3) := by decide +kernel
theorem dX12_notesQuarrels_20 : decode cX12_notesQuarrels 20 = .ok (.aload_n 0, 1) := by decide +kernel
theorem dX12_notesQuarrels_21 : decode cX12_notesQuarrels 21 = .ok (.getfield 414, 3) := by decide +kernel
theorem dX12_notesQuarrels_24 : decode cX12_notesQuarrels 24 = .ok (.iload_n 2, 1) := by decide +kernel
theorem dX12_notesQuarrels_25 : decode cX12_notesQuarrels 25 = .ok (.iaload, 1) := by decide +kernel
theorem dX12_notesQuarrels_26 : decode cX12_notesQuarrels 26 = .ok (.istore_n 3, 1) := by decide +kernel
theorem dX12_notesQuarrels_27 : decode cX12_notesQuarrels 27 = .ok (.aload_n 0, 1) := by decide +kernel
theorem dX12_notesQuarrels_28 : decode cX12_notesQuarrels 28 = .ok (.getfield 417, 3) := by decide +kernel
theorem dX12_notesQuarrels_31 : decode cX12_notesQuarrels 31 = .ok (.iload_n 2, 1) := by decide +kernel
theorem dX12_notesQuarrels_32 : decode cX12_notesQuarrels 32 = .ok (.iaload, 1) := by decide +kernel
theorem dX12_notesQuarrels_33 : decode cX12_notesQuarrels 33 = .ok (.iconst (-1), 1) := by decide +kernel
theorem dX12_notesQuarrels_34 : decode cX12_notesQuarrels 34 = .ok (.if_icmp .eq 53, 3) := by decide +kernel
theorem dX12_notesQuarrels_37 : decode cX12_notesQuarrels 37 = .ok (.aload_n 0, 1) := by decide +kernel
theorem dX12_notesQuarrels_38 : decode cX12_notesQuarrels 38 = .ok (.getfield 49, 3) := by decide +kernel
theorem dX12_notesQuarrels_41 : decode cX12_notesQuarrels 41 = .ok (.aload_n 0, 1) := by decide +kernel
theorem dX12_notesQuarrels_42 : decode cX12_notesQuarrels 42 = .ok (.getfield 411, 3) := by decide +kernel
theorem dX12_notesQuarrels_45 : decode cX12_notesQuarrels 45 = .ok (.iload_n 2, 1) := by decide +kernel
theorem dX12_notesQuarrels_46 : decode cX12_notesQuarrels 46 = .ok (.iaload, 1) := by decide +kernel
theorem dX12_notesQuarrels_47 : decode cX12_notesQuarrels 47 = .ok (.baload, 1) := by decide +kernel
theorem dX12_notesQuarrels_48 : decode cX12_notesQuarrels 48 = .ok (.ifCond .eq 39, 3) := by decide +kernel
theorem dX12_notesQuarrels_51 : decode cX12_notesQuarrels 51 = .ok (.aload_n 0, 1) := by decide +kernel
theorem dX12_notesQuarrels_52 : decode cX12_notesQuarrels 52 = .ok (.iload_n 3, 1) := by decide +kernel
theorem dX12_notesQuarrels_53 : decode cX12_notesQuarrels 53 = .ok (.invokevirtual 482, 3) := by decide +kernel
theorem dX12_notesQuarrels_56 : decode cX12_notesQuarrels 56 = .ok (.ifCond .eq 31, 3) := by decide +kernel
theorem dX12_notesQuarrels_59 : decode cX12_notesQuarrels 59 = .ok (.aload_n 0, 1) := by decide +kernel
theorem dX12_notesQuarrels_60 : decode cX12_notesQuarrels 60 = .ok (.getfield 387, 3) := by decide +kernel
theorem dX12_notesQuarrels_63 : decode cX12_notesQuarrels 63 = .ok (.iload_n 3, 1) := by decide +kernel
theorem dX12_notesQuarrels_64 : decode cX12_notesQuarrels 64 = .ok (.iaload, 1) := by decide +kernel
theorem dX12_notesQuarrels_65 : decode cX12_notesQuarrels 65 = .ok (.iconst 1, 1) := by decide +kernel
theorem dX12_notesQuarrels_66 : decode cX12_notesQuarrels 66 = .ok (.if_icmp .ne 21, 3) := by decide +kernel
theorem dX12_notesQuarrels_69 : decode cX12_notesQuarrels 69 = .ok (.aload_n 0, 1) := by decide +kernel
theorem dX12_notesQuarrels_70 : decode cX12_notesQuarrels 70 = .ok (.aload_n 0, 1) := by decide +kernel
theorem dX12_notesQuarrels_71 : decode cX12_notesQuarrels 71 = .ok (.getfield 411, 3) := by decide +kernel
theorem dX12_notesQuarrels_74 : decode cX12_notesQuarrels 74 = .ok (.iload_n 2, 1) := by decide +kernel
theorem dX12_notesQuarrels_75 : decode cX12_notesQuarrels 75 = .ok (.iaload, 1) := by decide +kernel
theorem dX12_notesQuarrels_76 : decode cX12_notesQuarrels 76 = .ok (.iload_n 3, 1) := by decide +kernel
theorem dX12_notesQuarrels_77 : decode cX12_notesQuarrels 77 = .ok (.invokevirtual 491, 3) := by decide +kernel
theorem dX12_notesQuarrels_80 : decode cX12_notesQuarrels 80 = .ok (.ifCond .eq 7, 3) := by decide +kernel
theorem dX12_notesQuarrels_83 : decode cX12_notesQuarrels 83 = .ok (.iconst 1, 1) := by decide +kernel
theorem dX12_notesQuarrels_84 : decode cX12_notesQuarrels 84 = .ok (.goto 4, 3) := by decide +kernel
theorem dX12_notesQuarrels_87 : decode cX12_notesQuarrels 87 = .ok (.iconst 0, 1) := by decide +kernel
theorem dX12_notesQuarrels_88 : decode cX12_notesQuarrels 88 = .ok (.istore 4, 2) := by decide +kernel
theorem dX12_notesQuarrels_90 : decode cX12_notesQuarrels 90 = .ok (.aload_n 0, 1) := by decide +kernel
theorem dX12_notesQuarrels_91 : decode cX12_notesQuarrels 91 = .ok (.getfield 423, 3) := by decide +kernel
theorem dX12_notesQuarrels_94 : decode cX12_notesQuarrels 94 = .ok (.iload_n 2, 1) := by decide +kernel
theorem dX12_notesQuarrels_95 : decode cX12_notesQuarrels 95 = .ok (.aload_n 0, 1) := by decide +kernel
theorem dX12_notesQuarrels_96 : decode cX12_notesQuarrels 96 = .ok (.getfield 417, 3) := by decide +kernel
theorem dX12_notesQuarrels_99 : decode cX12_notesQuarrels 99 = .ok (.iload_n 2, 1) := by decide +kernel
theorem dX12_notesQuarrels_100 : decode cX12_notesQuarrels 100 = .ok (.iaload, 1) := by decide +kernel
theorem dX12_notesQuarrels_101 : decode cX12_notesQuarrels 101 = .ok (.iconst (-1), 1) := by decide +kernel
theorem dX12_notesQuarrels_102 : decode cX12_notesQuarrels 102 = .ok (.if_icmp .eq 18, 3) := by decide +kernel
theorem dX12_notesQuarrels_105 : decode cX12_notesQuarrels 105 = .ok (.iload 4, 2) := by decide +kernel
theorem dX12_notesQuarrels_107 : decode cX12_notesQuarrels 107 = .ok (.aload_n 0, 1) := by decide +kernel
theorem dX12_notesQuarrels_108 : decode cX12_notesQuarrels 108 = .ok (.getfield 417, 3) := by decide +kernel
theorem dX12_notesQuarrels_111 : decode cX12_notesQuarrels 111 = .ok (.iload_n 2, 1) := by decide +kernel
theorem dX12_notesQuarrels_112 : decode cX12_notesQuarrels 112 = .ok (.iaload, 1) := by decide +kernel
theorem dX12_notesQuarrels_113 : decode cX12_notesQuarrels 113 = .ok (.if_icmp .eq 7, 3) := by decide +kernel
theorem dX12_notesQuarrels_116 : decode cX12_notesQuarrels 116 = .ok (.iconst 1, 1) := by decide +kernel
theorem dX12_notesQuarrels_117 : decode cX12_notesQuarrels 117 = .ok (.goto 4, 3) := by decide +kernel
theorem dX12_notesQuarrels_120 : decode cX12_notesQuarrels 120 = .ok (.iconst 0, 1) := by decide +kernel
theorem dX12_notesQuarrels_121 : decode cX12_notesQuarrels 121 = .ok (.iastore, 1) := by decide +kernel
theorem dX12_notesQuarrels_122 : decode cX12_notesQuarrels 122 = .ok (.iinc 2 1, 3) := by decide +kernel
theorem dX12_notesQuarrels_125 : decode cX12_notesQuarrels 125 = .ok (.goto (-113), 3) := by decide +kernel
theorem dX12_notesQuarrels_128 : decode cX12_notesQuarrels 128 = .ok (.aload_n 0, 1) := by decide +kernel
theorem dX12_notesQuarrels_129 : decode cX12_notesQuarrels 129 = .ok (.invokevirtual 541, 3) := by decide +kernel
theorem dX12_notesQuarrels_132 : decode cX12_notesQuarrels 132 = .ok (.iconst 1, 1) := by decide +kernel
theorem dX12_notesQuarrels_133 : decode cX12_notesQuarrels 133 = .ok (.ireturn, 1) := by decide +kernel
theorem dX12_quarrelsAt_0 : decode cX12_quarrelsAt 0 = .ok (.iconst 0, 1) := by decide +kernel
theorem dX12_quarrelsAt_1 : decode cX12_quarrelsAt 1 = .ok (.istore_n 2, 1) := by decide +kernel
theorem dX12_quarrelsAt_2 : decode cX12_quarrelsAt 2 = .ok (.iconst 1, 1) := by decide +kernel
theorem dX12_quarrelsAt_3 : decode cX12_quarrelsAt 3 = .ok (.istore_n 3, 1) := by decide +kernel
theorem dX12_quarrelsAt_4 : decode cX12_quarrelsAt 4 = .ok (.iload_n 3, 1) := by decide +kernel
theorem dX12_quarrelsAt_5 : decode cX12_quarrelsAt 5 = .ok (.iload_n 1, 1) := by decide +kernel
theorem dX12_quarrelsAt_6 : decode cX12_quarrelsAt 6 = .ok (.if_icmp .gt 37, 3) := by decide +kernel
theorem dX12_quarrelsAt_9 : decode cX12_quarrelsAt 9 = .ok (.aload_n 0, 1) := by decide +kernel
theorem dX12_quarrelsAt_10 : decode cX12_quarrelsAt 10 = .ok (.getfield 420, 3) := by decide +kernel
theorem dX12_quarrelsAt_13 : decode cX12_quarrelsAt 13 = .ok (.iload_n 3, 1) := by decide +kernel
theorem dX12_quarrelsAt_14 : decode cX12_quarrelsAt 14 = .ok (.iaload, 1) := by decide +kernel
theorem dX12_quarrelsAt_15 : decode cX12_quarrelsAt 15 = .ok (.ifCond .eq 13, 3) := by decide +kernel
theorem dX12_quarrelsAt_18 : decode cX12_quarrelsAt 18 = .ok (.aload_n 0, 1) := by decide +kernel
theorem dX12_quarrelsAt_19 : decode cX12_quarrelsAt 19 = .ok (.getfield 420, 3) := by decide +kernel
theorem dX12_quarrelsAt_22 : decode cX12_quarrelsAt 22 = .ok (.iload_n 3, 1) := by decide +kernel
theorem dX12_quarrelsAt_23 : decode cX12_quarrelsAt 23 = .ok (.iaload, 1) := by decide +kernel
theorem dX12_quarrelsAt_24 : decode cX12_quarrelsAt 24 = .ok (.iload_n 1, 1) := by decide +kernel
theorem dX12_quarrelsAt_25 : decode cX12_quarrelsAt 25 = .ok (.if_icmp .le 12, 3) := by decide +kernel
theorem dX12_quarrelsAt_28 : decode cX12_quarrelsAt 28 = .ok (.iload_n 2, 1) := by decide +kernel
theorem dX12_quarrelsAt_29 : decode cX12_quarrelsAt 29 = .ok (.aload_n 0, 1) := by decide +kernel
theorem dX12_quarrelsAt_30 : decode cX12_quarrelsAt 30 = .ok (.getfield 423, 3) := by decide +kernel
theorem dX12_quarrelsAt_33 : decode cX12_quarrelsAt 33 = .ok (.iload_n 3, 1) := by decide +kernel
theorem dX12_quarrelsAt_34 : decode cX12_quarrelsAt 34 = .ok (.iaload, 1) := by decide +kernel
theorem dX12_quarrelsAt_35 : decode cX12_quarrelsAt 35 = .ok (.iadd, 1) := by decide +kernel
theorem dX12_quarrelsAt_36 : decode cX12_quarrelsAt 36 = .ok (.istore_n 2, 1) := by decide +kernel
theorem dX12_quarrelsAt_37 : decode cX12_quarrelsAt 37 = .ok (.iinc 3 1, 3) := by decide +kernel
theorem dX12_quarrelsAt_40 : decode cX12_quarrelsAt 40 = .ok (.goto (-36), 3) := by decide +kernel
theorem dX12_quarrelsAt_43 : decode cX12_quarrelsAt 43 = .ok (.iload_n 2, 1) := by decide +kernel
theorem dX12_quarrelsAt_44 : decode cX12_quarrelsAt 44 = .ok (.ireturn, 1) := by decide +kernel
theorem dX12_isAct_0 : decode cX12_isAct 0 = .ok (.iload_n 1, 1) := by decide +kernel
theorem dX12_isAct_1 : decode cX12_isAct 1 = .ok (.iconst (-1), 1) := by decide +kernel
theorem dX12_isAct_2 : decode cX12_isAct 2 = .ok (.aload_n 0, 1) := by decide +kernel
theorem dX12_isAct_3 : decode cX12_isAct 3 = .ok (.getfield 559, 3) := by decide +kernel
theorem dX12_isAct_6 : decode cX12_isAct 6 = .ok (.invokestatic 3, 3) := by decide +kernel
theorem dX12_isAct_9 : decode cX12_isAct 9 = .ok (.ireturn, 1) := by decide +kernel
theorem dX12_quarrels_0 : decode cX12_quarrels 0 = .ok (.aload_n 0, 1) := by decide +kernel
theorem dX12_quarrels_1 : decode cX12_quarrels 1 = .ok (.iload_n 1, 1) := by decide +kernel
theorem dX12_quarrels_2 : decode cX12_quarrels 2 = .ok (.invokevirtual 544, 3) := by decide +kernel
theorem dX12_quarrels_5 : decode cX12_quarrels 5 = .ok (.ifCond .eq 19, 3) := by decide +kernel
theorem dX12_quarrels_8 : decode cX12_quarrels 8 = .ok (.aload_n 0, 1) := by decide +kernel
theorem dX12_quarrels_9 : decode cX12_quarrels 9 = .ok (.iload_n 2, 1) := by decide +kernel
theorem dX12_quarrels_10 : decode cX12_quarrels 10 = .ok (.invokevirtual 562, 3) := by decide +kernel
theorem dX12_quarrels_13 : decode cX12_quarrels 13 = .ok (.ifCond .eq 11, 3) := by decide +kernel
theorem dX12_quarrels_16 : decode cX12_quarrels 16 = .ok (.aload_n 0, 1) := by decide +kernel
theorem dX12_quarrels_17 : decode cX12_quarrels 17 = .ok (.iload_n 1, 1) := by decide +kernel
theorem dX12_quarrels_18 : decode cX12_quarrels 18 = .ok (.invokevirtual 565, 3) := by decide +kernel
theorem dX12_quarrels_21 : decode cX12_quarrels 21 = .ok (.ifCond .ne 5, 3) := by decide +kernel
theorem dX12_quarrels_24 : decode cX12_quarrels 24 = .ok (.iconst (-1), 1) := by decide +kernel
theorem dX12_quarrels_25 : decode cX12_quarrels 25 = .ok (.ireturn, 1) := by decide +kernel
theorem dX12_quarrels_26 : decode cX12_quarrels 26 = .ok (.aload_n 0, 1) := by decide +kernel
theorem dX12_quarrels_27 : decode cX12_quarrels 27 = .ok (.iload_n 2, 1) := by decide +kernel
theorem dX12_quarrels_28 : decode cX12_quarrels 28 = .ok (.iconst (-1), 1) := by decide +kernel
