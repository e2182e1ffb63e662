theorem dX9_needName_35 : decode cX9_needName 35 = .ok (.dup, 1) := by decide +kernel
theorem dX9_needName_36 : decode cX9_needName 36 = .ok (.getfield 25, 3) := by decide +kernel
theorem dX9_needName_39 : decode cX9_needName 39 = .ok (.iconst 1, 1) := by decide +kernel
theorem dX9_needName_40 : decode cX9_needName 40 = .ok (.iadd, 1) := by decide +kernel
theorem dX9_needName_41 : decode cX9_needName 41 = .ok (.putfield 25, 3) := by decide +kernel
theorem dX9_needName_44 : decode cX9_needName 44 = .ok (.iinc 1 1, 3) := by decide +kernel
theorem dX9_needName_47 : decode cX9_needName 47 = .ok (.goto (-26), 3) := by decide +kernel
theorem dX9_needName_50 : decode cX9_needName 50 = .ok (.aload_n 0, 1) := by decide +kernel
theorem dX9_needName_51 : decode cX9_needName 51 = .ok (.aload_n 0, 1) := by decide +kernel
theorem dX9_needName_52 : decode cX9_needName 52 = .ok (.getfield 25, 3) := by decide +kernel
theorem dX9_needName_55 : decode cX9_needName 55 = .ok (.putfield 46, 3) := by decide +kernel
theorem dX9_needName_58 : decode cX9_needName 58 = .ok (.aload_n 0, 1) := by decide +kernel
theorem dX9_needName_59 : decode cX9_needName 59 = .ok (.getfield 46, 3) := by decide +kernel
theorem dX9_needName_62 : decode cX9_needName 62 = .ok (.aload_n 0, 1) := by decide +kernel
theorem dX9_needName_63 : decode cX9_needName 63 = .ok (.getfield 39, 3) := by decide +kernel
theorem dX9_needName_66 : decode cX9_needName 66 = .ok (.if_icmp .eq 10, 3) := by decide +kernel
theorem dX9_needName_69 : decode cX9_needName 69 = .ok (.aload_n 0, 1) := by decide +kernel
theorem dX9_needName_70 : decode cX9_needName 70 = .ok (.invokevirtual 42, 3) := by decide +kernel
theorem dX9_needName_73 : decode cX9_needName 73 = .ok (.ifCond .eq 12, 3) := by decide +kernel
theorem dX9_needName_76 : decode cX9_needName 76 = .ok (.aload_n 0, 1) := by decide +kernel
theorem dX9_needName_77 : decode cX9_needName 77 = .ok (.iconst 1, 1) := by decide +kernel
theorem dX9_needName_78 : decode cX9_needName 78 = .ok (.aload_n 0, 1) := by decide +kernel
theorem dX9_needName_79 : decode cX9_needName 79 = .ok (.getfield 25, 3) := by decide +kernel
theorem dX9_needName_82 : decode cX9_needName 82 = .ok (.invokevirtual 31, 3) := by decide +kernel
theorem dX9_needName_85 : decode cX9_needName 85 = .ok (.return_, 1) := by decide +kernel
theorem dX9_needNumber_0 : decode cX9_needNumber 0 = .ok (.aload_n 0, 1) := by decide +kernel
theorem dX9_needNumber_1 : decode cX9_needNumber 1 = .ok (.invokevirtual 58, 3) := by decide +kernel
theorem dX9_needNumber_4 : decode cX9_needNumber 4 = .ok (.aload_n 0, 1) := by decide +kernel
theorem dX9_needNumber_5 : decode cX9_needNumber 5 = .ok (.getfield 9, 3) := by decide +kernel
theorem dX9_needNumber_8 : decode cX9_needNumber 8 = .ok (.ifCond .eq 5, 3) := by decide +kernel
theorem dX9_needNumber_11 : decode cX9_needNumber 11 = .ok (.iconst (-1), 1) := by decide +kernel
theorem dX9_needNumber_12 : decode cX9_needNumber 12 = .ok (.ireturn, 1) := by decide +kernel
theorem dX9_needNumber_13 : decode cX9_needNumber 13 = .ok (.aload_n 0, 1) := by decide +kernel
theorem dX9_needNumber_14 : decode cX9_needNumber 14 = .ok (.getfield 25, 3) := by decide +kernel
theorem dX9_needNumber_17 : decode cX9_needNumber 17 = .ok (.istore_n 3, 1) := by decide +kernel
theorem dX9_needNumber_18 : decode cX9_needNumber 18 = .ok (.iconst 0, 1) := by decide +kernel
theorem dX9_needNumber_19 : decode cX9_needNumber 19 = .ok (.istore 4, 2) := by decide +kernel
theorem dX9_needNumber_21 : decode cX9_needNumber 21 = .ok (.iconst 0, 1) := by decide +kernel
theorem dX9_needNumber_22 : decode cX9_needNumber 22 = .ok (.istore 5, 2) := by decide +kernel
theorem dX9_needNumber_24 : decode cX9_needNumber 24 = .ok (.iload 5, 2) := by decide +kernel
theorem dX9_needNumber_26 : decode cX9_needNumber 26 = .ok (.iconst 4, 1) := by decide +kernel
theorem dX9_needNumber_27 : decode cX9_needNumber 27 = .ok (.if_icmp .ge 46, 3) := by decide +kernel
theorem dX9_needNumber_30 : decode cX9_needNumber 30 = .ok (.aload_n 0, 1) := by decide +kernel
theorem dX9_needNumber_31 : decode cX9_needNumber 31 = .ok (.invokevirtual 68, 3) := by decide +kernel
theorem dX9_needNumber_34 : decode cX9_needNumber 34 = .ok (.ifCond .eq 39, 3) := by decide +kernel
theorem dX9_needNumber_37 : decode cX9_needNumber 37 = .ok (.bipush 10, 2) := by decide +kernel
theorem dX9_needNumber_39 : decode cX9_needNumber 39 = .ok (.iload 4, 2) := by decide +kernel
theorem dX9_needNumber_41 : decode cX9_needNumber 41 = .ok (.imul, 1) := by decide +kernel
theorem dX9_needNumber_42 : decode cX9_needNumber 42 = .ok (.aload_n 0, 1) := by decide +kernel
theorem dX9_needNumber_43 : decode cX9_needNumber 43 = .ok (.getfield 18, 3) := by decide +kernel
theorem dX9_needNumber_46 : decode cX9_needNumber 46 = .ok (.aload_n 0, 1) := by decide +kernel
theorem dX9_needNumber_47 : decode cX9_needNumber 47 = .ok (.getfield 25, 3) := by decide +kernel
theorem dX9_needNumber_50 : decode cX9_needNumber 50 = .ok (.baload, 1) := by decide +kernel
theorem dX9_needNumber_51 : decode cX9_needNumber 51 = .ok (.iadd, 1) := by decide +kernel
theorem dX9_needNumber_52 : decode cX9_needNumber 52 = .ok (.bipush 48, 2) := by decide +kernel
theorem dX9_needNumber_54 : decode cX9_needNumber 54 = .ok (.isub, 1) := by decide +kernel
theorem dX9_needNumber_55 : decode cX9_needNumber 55 = .ok (.istore 4, 2) := by decide +kernel
theorem dX9_needNumber_57 : decode cX9_needNumber 57 = .ok (.aload_n 0, 1) := by decide +kernel
theorem dX9_needNumber_58 : decode cX9_needNumber 58 = .ok (.dup, 1) := by decide +kernel
theorem dX9_needNumber_59 : decode cX9_needNumber 59 = .ok (.getfield 25, 3) := by decide +kernel
theorem dX9_needNumber_62 : decode cX9_needNumber 62 = .ok (.iconst 1, 1) := by decide +kernel
theorem dX9_needNumber_63 : decode cX9_needNumber 63 = .ok (.iadd, 1) := by decide +kernel
theorem dX9_needNumber_64 : decode cX9_needNumber 64 = .ok (.putfield 25, 3) := by decide +kernel
theorem dX9_needNumber_67 : decode cX9_needNumber 67 = .ok (.iinc 5 1, 3) := by decide +kernel
theorem dX9_needNumber_70 : decode cX9_needNumber 70 = .ok (.goto (-46), 3) := by decide +kernel
theorem dX9_needNumber_73 : decode cX9_needNumber 73 = .ok (.aload_n 0, 1) := by decide +kernel
theorem dX9_needNumber_74 : decode cX9_needNumber 74 = .ok (.getfield 25, 3) := by decide +kernel
theorem dX9_needNumber_77 : decode cX9_needNumber 77 = .ok (.iload_n 3, 1) := by decide +kernel
theorem dX9_needNumber_78 : decode cX9_needNumber 78 = .ok (.if_icmp .eq 10, 3) := by decide +kernel
theorem dX9_needNumber_81 : decode cX9_needNumber 81 = .ok (.aload_n 0, 1) := by decide +kernel
theorem dX9_needNumber_82 : decode cX9_needNumber 82 = .ok (.invokevirtual 68, 3) := by decide +kernel
theorem dX9_needNumber_85 : decode cX9_needNumber 85 = .ok (.ifCond .eq 15, 3) := by decide +kernel
theorem dX9_needNumber_88 : decode cX9_needNumber 88 = .ok (.aload_n 0, 1) := by decide +kernel
theorem dX9_needNumber_89 : decode cX9_needNumber 89 = .ok (.iconst 1, 1) := by decide +kernel
theorem dX9_needNumber_90 : decode cX9_needNumber 90 = .ok (.aload_n 0, 1) := by decide +kernel
theorem dX9_needNumber_91 : decode cX9_needNumber 91 = .ok (.getfield 25, 3) := by decide +kernel
theorem dX9_needNumber_94 : decode cX9_needNumber 94 = .ok (.invokevirtual 31, 3) := by decide +kernel
theorem dX9_needNumber_97 : decode cX9_needNumber 97 = .ok (.goto 21, 3) := by decide +kernel
theorem dX9_needNumber_100 : decode cX9_needNumber 100 = .ok (.iload 4, 2) := by decide +kernel
theorem dX9_needNumber_102 : decode cX9_needNumber 102 = .ok (.iload_n 1, 1) := by decide +kernel
theorem dX9_needNumber_103 : decode cX9_needNumber 103 = .ok (.if_icmp .lt 9, 3) := by decide +kernel
theorem dX9_needNumber_106 : decode cX9_needNumber 106 = .ok (.iload 4, 2) := by decide +kernel
theorem dX9_needNumber_108 : decode cX9_needNumber 108 = .ok (.iload_n 2, 1) := by decide +kernel
theorem dX9_needNumber_109 : decode cX9_needNumber 109 = .ok (.if_icmp .le 9, 3) := by decide +kernel
theorem dX9_needNumber_112 : decode cX9_needNumber 112 = .ok (.aload_n 0, 1) := by decide +kernel
theorem dX9_needNumber_113 : decode cX9_needNumber 113 = .ok (.iconst 2, 1) := by decide +kernel
theorem dX9_needNumber_114 : decode cX9_needNumber 114 = .ok (.iload_n 3, 1) := by decide +kernel
theorem dX9_needNumber_115 : decode cX9_needNumber 115 = .ok (.invokevirtual 31, 3) := by decide +kernel
theorem dX9_needNumber_118 : decode cX9_needNumber 118 = .ok (.aload_n 0, 1) := by decide +kernel
theorem dX9_needNumber_119 : decode cX9_needNumber 119 = .ok (.getfield 9, 3) := by decide +kernel
theorem dX9_needNumber_122 : decode cX9_needNumber 122 = .ok (.ifCond .ne 8, 3) := by decide +kernel
theorem dX9_needNumber_125 : decode cX9_needNumber 125 = .ok (.iload 4, 2) := by decide +kernel
theorem dX9_needNumber_127 : decode cX9_needNumber 127 = .ok (.goto 4, 3) := by decide +kernel
theorem dX9_needNumber_130 : decode cX9_needNumber 130 = .ok (.iconst (-1), 1) := by decide +kernel
theorem dX9_needNumber_131 : decode cX9_needNumber 131 = .ok (.ireturn, 1) := by decide +kernel
theorem dX9_isLetter_0 : decode cX9_isLetter 0 = .ok (.aload_n 0, 1) := by decide +kernel
theorem dX9_isLetter_1 : decode cX9_isLetter 1 = .ok (.getfield 25, 3) := by decide +kernel
theorem dX9_isLetter_4 : decode cX9_isLetter 4 = .ok (.aload_n 0, 1) := by decide +kernel
theorem dX9_isLetter_5 : decode cX9_isLetter 5 = .ok (.getfield 22, 3) := by decide +kernel
theorem dX9_isLetter_8 : decode cX9_isLetter 8 = .ok (.if_icmp .lt 5, 3) := by decide +kernel
theorem dX9_isLetter_11 : decode cX9_isLetter 11 = .ok (.iconst 0, 1) := by decide +kernel
theorem dX9_isLetter_12 : decode cX9_isLetter 12 = .ok (.ireturn, 1) := by decide +kernel
theorem dX9_isLetter_13 : decode cX9_isLetter 13 = .ok (.aload_n 0, 1) := by decide +kernel
theorem dX9_isLetter_14 : decode cX9_isLetter 14 = .ok (.getfield 18, 3) := by decide +kernel
theorem dX9_isLetter_17 : decode cX9_isLetter 17 = .ok (.aload_n 0, 1) := by decide +kernel
theorem dX9_isLetter_18 : decode cX9_isLetter 18 = .ok (.getfield 25, 3) := by decide +kernel
theorem dX9_isLetter_21 : decode cX9_isLetter 21 = .ok (.baload, 1) := by decide +kernel
theorem dX9_isLetter_22 : decode cX9_isLetter 22 = .ok (.istore_n 1, 1) := by decide +kernel
theorem dX9_isLetter_23 : decode cX9_isLetter 23 = .ok (.iload_n 1, 1) := by decide +kernel
theorem dX9_isLetter_24 : decode cX9_isLetter 24 = .ok (.bipush 97, 2) := by decide +kernel
theorem dX9_isLetter_26 : decode cX9_isLetter 26 = .ok (.if_icmp .lt 9, 3) := by decide +kernel
theorem dX9_isLetter_29 : decode cX9_isLetter 29 = .ok (.iload_n 1, 1) := by decide +kernel
theorem dX9_isLetter_30 : decode cX9_isLetter 30 = .ok (.bipush 122, 2) := by decide +kernel
theorem dX9_isLetter_32 : decode cX9_isLetter 32 = .ok (.if_icmp .le 15, 3) := by decide +kernel
theorem dX9_isLetter_35 : decode cX9_isLetter 35 = .ok (.iload_n 1, 1) := by decide +kernel
theorem dX9_isLetter_36 : decode cX9_isLetter 36 = .ok (.bipush 65, 2) := by decide +kernel
theorem dX9_isLetter_38 : decode cX9_isLetter 38 = .ok (.if_icmp .lt 13, 3) := by decide +kernel
theorem dX9_isLetter_41 : decode cX9_isLetter 41 = .ok (.iload_n 1, 1) := by decide +kernel
theorem dX9_isLetter_42 : decode cX9_isLetter 42 = .ok (.bipush 90, 2) := by decide +kernel
theorem dX9_isLetter_44 : decode cX9_isLetter 44 = .ok (.if_icmp .gt 7, 3) := by decide +kernel
theorem dX9_isLetter_47 : decode cX9_isLetter 47 = .ok (.iconst 1, 1) := by decide +kernel
theorem dX9_isLetter_48 : decode cX9_isLetter 48 = .ok (.goto 4, 3) := by decide +kernel
theorem dX9_isLetter_51 : decode cX9_isLetter 51 = .ok (.iconst 0, 1) := by decide +kernel
theorem dX9_isLetter_52 : decode cX9_isLetter 52 = .ok (.ireturn, 1) := by decide +kernel
theorem dX9_isDigit_0 : decode cX9_isDigit 0 = .ok (.aload_n 0, 1) := by decide +kernel
theorem dX9_isDigit_1 : decode cX9_isDigit 1 = .ok (.getfield 25, 3) := by decide +kernel
theorem dX9_isDigit_4 : decode cX9_isDigit 4 = .ok (.aload_n 0, 1) := by decide +kernel
theorem dX9_isDigit_5 : decode cX9_isDigit 5 = .ok (.getfield 22, 3) := by decide +kernel
theorem dX9_isDigit_8 : decode cX9_isDigit 8 = .ok (.if_icmp .ge 35, 3) := by decide +kernel
theorem dX9_isDigit_11 : decode cX9_isDigit 11 = .ok (.aload_n 0, 1) := by decide +kernel
theorem dX9_isDigit_12 : decode cX9_isDigit 12 = .ok (.getfield 18, 3) := by decide +kernel
theorem dX9_isDigit_15 : decode cX9_isDigit 15 = .ok (.aload_n 0, 1) := by decide +kernel
theorem dX9_isDigit_16 : decode cX9_isDigit 16 = .ok (.getfield 25, 3) := by decide +kernel
theorem dX9_isDigit_19 : decode cX9_isDigit 19 = .ok (.baload, 1) := by decide +kernel
theorem dX9_isDigit_20 : decode cX9_isDigit 20 = .ok (.bipush 48, 2) := by decide +kernel
theorem dX9_isDigit_22 : decode cX9_isDigit 22 = .ok (.if_icmp .lt 21, 3) := by decide +kernel
theorem dX9_isDigit_25 : decode cX9_isDigit 25 = .ok (.aload_n 0, 1) := by decide +kernel
theorem dX9_isDigit_26 : decode cX9_isDigit 26 = .ok (.getfield 18, 3) := by decide +kernel
theorem dX9_isDigit_29 : decode cX9_isDigit 29 = .ok (.aload_n 0, 1) := by decide +kernel
theorem dX9_isDigit_30 : decode cX9_isDigit 30 = .ok (.getfield 25, 3) := by decide +kernel
theorem dX9_isDigit_33 : decode cX9_isDigit 33 = .ok (.baload, 1) := by decide +kernel
theorem dX9_isDigit_34 : decode cX9_isDigit 34 = .ok (.bipush 57, 2) := by decide +kernel
theorem dX9_isDigit_36 : decode cX9_isDigit 36 = .ok (.if_icmp .gt 7, 3) := by decide +kernel
theorem dX9_isDigit_39 : decode cX9_isDigit 39 = .ok (.iconst 1, 1) := by decide +kernel
theorem dX9_isDigit_40 : decode cX9_isDigit 40 = .ok (.goto 4, 3) := by decide +kernel
theorem dX9_isDigit_43 : decode cX9_isDigit 43 = .ok (.iconst 0, 1) := by decide +kernel
theorem dX9_isDigit_44 : decode cX9_isDigit 44 = .ok (.ireturn, 1) := by decide +kernel
theorem dX10_init_0 : decode cX10_init 0 = .ok (.aload_n 0, 1) := by decide +kernel
theorem dX10_init_1 : decode cX10_init 1 = .ok (.invokespecial 3, 3) := by decide +kernel
theorem dX10_init_4 : decode cX10_init 4 = .ok (.aload_n 0, 1) := by decide +kernel
theorem dX10_init_5 : decode cX10_init 5 = .ok (.sipush 241, 3) := by decide +kernel
theorem dX10_init_8 : decode cX10_init 8 = .ok (.newarray .int, 2) := by decide +kernel
theorem dX10_init_10 : decode cX10_init 10 = .ok (.putfield 9, 3) := by decide +kernel
theorem dX10_init_13 : decode cX10_init 13 = .ok (.aload_n 0, 1) := by decide +kernel
theorem dX10_init_14 : decode cX10_init 14 = .ok (.sipush 241, 3) := by decide +kernel
theorem dX10_init_17 : decode cX10_init 17 = .ok (.newarray .int, 2) := by decide +kernel
theorem dX10_init_19 : decode cX10_init 19 = .ok (.putfield 15, 3) := by decide +kernel
theorem dX10_init_22 : decode cX10_init 22 = .ok (.aload_n 0, 1) := by decide +kernel
theorem dX10_init_23 : decode cX10_init 23 = .ok (.sipush 241, 3) := by decide +kernel
theorem dX10_init_26 : decode cX10_init 26 = .ok (.newarray .boolean, 2) := by decide +kernel
theorem dX10_init_28 : decode cX10_init 28 = .ok (.putfield 18, 3) := by decide +kernel
theorem dX10_init_31 : decode cX10_init 31 = .ok (.aload_n 0, 1) := by decide +kernel
theorem dX10_init_32 : decode cX10_init 32 = .ok (.bipush 80, 2) := by decide +kernel
theorem dX10_init_34 : decode cX10_init 34 = .ok (.newarray .int, 2) := by decide +kernel
theorem dX10_init_36 : decode cX10_init 36 = .ok (.putfield 22, 3) := by decide +kernel
theorem dX10_init_39 : decode cX10_init 39 = .ok (.aload_n 0, 1) := by decide +kernel
theorem dX10_init_40 : decode cX10_init 40 = .ok (.bipush 80, 2) := by decide +kernel
theorem dX10_init_42 : decode cX10_init 42 = .ok (.newarray .int, 2) := by decide +kernel
theorem dX10_init_44 : decode cX10_init 44 = .ok (.putfield 25, 3) := by decide +kernel
theorem dX10_init_47 : decode cX10_init 47 = .ok (.aload_n 0, 1) := by decide +kernel
theorem dX10_init_48 : decode cX10_init 48 = .ok (.getfield 18, 3) := by decide +kernel
theorem dX10_init_51 : decode cX10_init 51 = .ok (.iconst 0, 1) := by decide +kernel
theorem dX10_init_52 : decode cX10_init 52 = .ok (.iconst 1, 1) := by decide +kernel
theorem dX10_init_53 : decode cX10_init 53 = .ok (.bastore, 1) := by decide +kernel
theorem dX10_init_54 : decode cX10_init 54 = .ok (.return_, 1) := by decide +kernel
theorem dX10_hasCount_0 : decode cX10_hasCount 0 = .ok (.iload_n 1, 1) := by decide +kernel
theorem dX10_hasCount_1 : decode cX10_hasCount 1 = .ok (.ifCond .lt 15, 3) := by decide +kernel
theorem dX10_hasCount_4 : decode cX10_hasCount 4 = .ok (.iload_n 1, 1) := by decide +kernel
theorem dX10_hasCount_5 : decode cX10_hasCount 5 = .ok (.aload_n 0, 1) := by decide +kernel
theorem dX10_hasCount_6 : decode cX10_hasCount 6 = .ok (.getfield 28, 3) := by decide +kernel
theorem dX10_hasCount_9 : decode cX10_hasCount 9 = .ok (.if_icmp .gt 7, 3) := by decide +kernel
theorem dX10_hasCount_12 : decode cX10_hasCount 12 = .ok (.iconst 1, 1) := by decide +kernel
theorem dX10_hasCount_13 : decode cX10_hasCount 13 = .ok (.goto 4, 3) := by decide +kernel
theorem dX10_hasCount_16 : decode cX10_hasCount 16 = .ok (.iconst 0, 1) := by decide +kernel
theorem dX10_hasCount_17 : decode cX10_hasCount 17 = .ok (.ireturn, 1) := by decide +kernel
theorem dX10_isAsBefore_0 : decode cX10_isAsBefore 0 = .ok (.iload_n 1, 1) := by decide +kernel
theorem dX10_isAsBefore_1 : decode cX10_isAsBefore 1 = .ok (.ifCond .le 58, 3) := by decide +kernel
theorem dX10_isAsBefore_4 : decode cX10_isAsBefore 4 = .ok (.aload_n 0, 1) := by decide +kernel
theorem dX10_isAsBefore_5 : decode cX10_isAsBefore 5 = .ok (.getfield 9, 3) := by decide +kernel
theorem dX10_isAsBefore_8 : decode cX10_isAsBefore 8 = .ok (.iload_n 1, 1) := by decide +kernel
theorem dX10_isAsBefore_9 : decode cX10_isAsBefore 9 = .ok (.iaload, 1) := by decide +kernel
theorem dX10_isAsBefore_10 : decode cX10_isAsBefore 10 = .ok (.aload_n 0, 1) := by decide +kernel
theorem dX10_isAsBefore_11 : decode cX10_isAsBefore 11 = .ok (.getfield 9, 3) := by decide +kernel
theorem dX10_isAsBefore_14 : decode cX10_isAsBefore 14 = .ok (.iload_n 1, 1) := by decide +kernel
theorem dX10_isAsBefore_15 : decode cX10_isAsBefore 15 = .ok (.iconst 1, 1) := by decide +kernel
theorem dX10_isAsBefore_16 : decode cX10_isAsBefore 16 = .ok (.isub, 1) := by decide +kernel
theorem dX10_isAsBefore_17 : decode cX10_isAsBefore 17 = .ok (.iaload, 1) := by decide +kernel
theorem dX10_isAsBefore_18 : decode cX10_isAsBefore 18 = .ok (.if_icmp .ne 41, 3) := by decide +kernel
theorem dX10_isAsBefore_21 : decode cX10_isAsBefore 21 = .ok (.aload_n 0, 1) := by decide +kernel
theorem dX10_isAsBefore_22 : decode cX10_isAsBefore 22 = .ok (.getfield 15, 3) := by decide +kernel
theorem dX10_isAsBefore_25 : decode cX10_isAsBefore 25 = .ok (.iload_n 1, 1) := by decide +kernel
theorem dX10_isAsBefore_26 : decode cX10_isAsBefore 26 = .ok (.iaload, 1) := by decide +kernel
theorem dX10_isAsBefore_27 : decode cX10_isAsBefore 27 = .ok (.aload_n 0, 1) := by decide +kernel
theorem dX10_isAsBefore_28 : decode cX10_isAsBefore 28 = .ok (.getfield 15, 3) := by decide +kernel
theorem dX10_isAsBefore_31 : decode cX10_isAsBefore 31 = .ok (.iload_n 1, 1) := by decide +kernel
theorem dX10_isAsBefore_32 : decode cX10_isAsBefore 32 = .ok (.iconst 1, 1) := by decide +kernel
theorem dX10_isAsBefore_33 : decode cX10_isAsBefore 33 = .ok (.isub, 1) := by decide +kernel
theorem dX10_isAsBefore_34 : decode cX10_isAsBefore 34 = .ok (.iaload, 1) := by decide +kernel
theorem dX10_isAsBefore_35 : decode cX10_isAsBefore 35 = .ok (.if_icmp .ne 24, 3) := by decide +kernel
theorem dX10_isAsBefore_38 : decode cX10_isAsBefore 38 = .ok (.aload_n 0, 1) := by decide +kernel
theorem dX10_isAsBefore_39 : decode cX10_isAsBefore 39 = .ok (.getfield 18, 3) := by decide +kernel
theorem dX10_isAsBefore_42 : decode cX10_isAsBefore 42 = .ok (.iload_n 1, 1) := by decide +kernel
theorem dX10_isAsBefore_43 : decode cX10_isAsBefore 43 = .ok (.baload, 1) := by decide +kernel
theorem dX10_isAsBefore_44 : decode cX10_isAsBefore 44 = .ok (.aload_n 0, 1) := by decide +kernel
theorem dX10_isAsBefore_45 : decode cX10_isAsBefore 45 = .ok (.getfield 18, 3) := by decide +kernel
theorem dX10_isAsBefore_48 : decode cX10_isAsBefore 48 = .ok (.iload_n 1, 1) := by decide +kernel
theorem dX10_isAsBefore_49 : decode cX10_isAsBefore 49 = .ok (.iconst 1, 1) := by decide +kernel
theorem dX10_isAsBefore_50 : decode cX10_isAsBefore 50 = .ok (.isub, 1) := by decide +kernel
theorem dX10_isAsBefore_51 : decode cX10_isAsBefore 51 = .ok (.baload, 1) := by decide +kernel
theorem dX10_isAsBefore_52 : decode cX10_isAsBefore 52 = .ok (.if_icmp .ne 7, 3) := by decide +kernel
theorem dX10_isAsBefore_55 : decode cX10_isAsBefore 55 = .ok (.iconst 1, 1) := by decide +kernel
theorem dX10_isAsBefore_56 : decode cX10_isAsBefore 56 = .ok (.goto 4, 3) := by decide +kernel
theorem dX10_isAsBefore_59 : decode cX10_isAsBefore 59 = .ok (.iconst 0, 1) := by decide +kernel
theorem dX10_isAsBefore_60 : decode cX10_isAsBefore 60 = .ok (.ireturn, 1) := by decide +kernel
theorem dX10_perform_0 : decode cX10_perform 0 = .ok (.aload_n 0, 1) := by decide +kernel
theorem dX10_perform_1 : decode cX10_perform 1 = .ok (.iconst 0, 1) := by decide +kernel
theorem dX10_perform_2 : decode cX10_perform 2 = .ok (.putfield 28, 3) := by decide +kernel
theorem dX10_perform_5 : decode cX10_perform 5 = .ok (.aload_n 0, 1) := by decide +kernel
theorem dX10_perform_6 : decode cX10_perform 6 = .ok (.getfield 9, 3) := by decide +kernel
theorem dX10_perform_9 : decode cX10_perform 9 = .ok (.iconst 0, 1) := by decide +kernel
theorem dX10_perform_10 : decode cX10_perform 10 = .ok (.iconst 0, 1) := by decide +kernel
theorem dX10_perform_11 : decode cX10_perform 11 = .ok (.iastore, 1) := by decide +kernel
theorem dX10_perform_12 : decode cX10_perform 12 = .ok (.aload_n 0, 1) := by decide +kernel
theorem dX10_perform_13 : decode cX10_perform 13 = .ok (.getfield 15, 3) := by decide +kernel
theorem dX10_perform_16 : decode cX10_perform 16 = .ok (.iconst 0, 1) := by decide +kernel
theorem dX10_perform_17 : decode cX10_perform 17 = .ok (.iconst 0, 1) := by decide +kernel
theorem dX10_perform_18 : decode cX10_perform 18 = .ok (.iastore, 1) := by decide +kernel
theorem dX10_perform_19 : decode cX10_perform 19 = .ok (.aload_n 0, 1) := by decide +kernel
theorem dX10_perform_20 : decode cX10_perform 20 = .ok (.getfield 18, 3) := by decide +kernel
theorem dX10_perform_23 : decode cX10_perform 23 = .ok (.iconst 0, 1) := by decide +kernel
theorem dX10_perform_24 : decode cX10_perform 24 = .ok (.iconst 1, 1) := by decide +kernel
theorem dX10_perform_25 : decode cX10_perform 25 = .ok (.bastore, 1) := by decide +kernel
theorem dX10_perform_26 : decode cX10_perform 26 = .ok (.aload_n 0, 1) := by decide +kernel
theorem dX10_perform_27 : decode cX10_perform 27 = .ok (.iconst 0, 1) := by decide +kernel
theorem dX10_perform_28 : decode cX10_perform 28 = .ok (.putfield 32, 3) := by decide +kernel
theorem dX10_perform_31 : decode cX10_perform 31 = .ok (.iconst 0, 1) := by decide +kernel
theorem dX10_perform_32 : decode cX10_perform 32 = .ok (.istore_n 2, 1) := by decide +kernel
theorem dX10_perform_33 : decode cX10_perform 33 = .ok (.iconst 0, 1) := by decide +kernel
theorem dX10_perform_34 : decode cX10_perform 34 = .ok (.istore_n 3, 1) := by decide +kernel
theorem dX10_perform_35 : decode cX10_perform 35 = .ok (.iload_n 3, 1) := by decide +kernel
theorem dX10_perform_36 : decode cX10_perform 36 = .ok (.ldc 35, 2) := by decide +kernel
theorem dX10_perform_38 : decode cX10_perform 38 = .ok (.if_icmp .ge 24, 3) := by decide +kernel
theorem dX10_perform_41 : decode cX10_perform 41 = .ok (.iload_n 2, 1) := by decide +kernel
theorem dX10_perform_42 : decode cX10_perform 42 = .ok (.aload_n 1, 1) := by decide +kernel
theorem dX10_perform_43 : decode cX10_perform 43 = .ok (.getfield 36, 3) := by decide +kernel
theorem dX10_perform_46 : decode cX10_perform 46 = .ok (.if_icmp .ge 16, 3) := by decide +kernel
theorem dX10_perform_49 : decode cX10_perform 49 = .ok (.aload_n 0, 1) := by decide +kernel
theorem dX10_perform_50 : decode cX10_perform 50 = .ok (.aload_n 1, 1) := by decide +kernel
theorem dX10_perform_51 : decode cX10_perform 51 = .ok (.iload_n 2, 1) := by decide +kernel
theorem dX10_perform_52 : decode cX10_perform 52 = .ok (.invokevirtual 41, 3) := by decide +kernel
theorem dX10_perform_55 : decode cX10_perform 55 = .ok (.istore_n 2, 1) := by decide +kernel
theorem dX10_perform_56 : decode cX10_perform 56 = .ok (.iinc 3 1, 3) := by decide +kernel
theorem dX10_perform_59 : decode cX10_perform 59 = .ok (.goto (-24), 3) := by decide +kernel
theorem dX10_perform_62 : decode cX10_perform 62 = .ok (.return_, 1) := by decide +kernel
theorem dX10_follow_0 : decode cX10_follow 0 = .ok (.aload_n 1, 1) := by decide +kernel
theorem dX10_follow_1 : decode cX10_follow 1 = .ok (.getfield 45, 3) := by decide +kernel
theorem dX10_follow_4 : decode cX10_follow 4 = .ok (.iload_n 2, 1) := by decide +kernel
theorem dX10_follow_5 : decode cX10_follow 5 = .ok (.iaload, 1) := by decide +kernel
theorem dX10_follow_6 : decode cX10_follow 6 = .ok (.istore_n 3, 1) := by decide +kernel
theorem dX10_follow_7 : decode cX10_follow 7 = .ok (.aload_n 1, 1) := by decide +kernel
theorem dX10_follow_8 : decode cX10_follow 8 = .ok (.getfield 48, 3) := by decide +kernel
theorem dX10_follow_11 : decode cX10_follow 11 = .ok (.iload_n 2, 1) := by decide +kernel
theorem dX10_follow_12 : decode cX10_follow 12 = .ok (.iaload, 1) := by decide +kernel
theorem dX10_follow_13 : decode cX10_follow 13 = .ok (.istore 4, 2) := by decide +kernel
theorem dX10_follow_15 : decode cX10_follow 15 = .ok (.aload_n 1, 1) := by decide +kernel
theorem dX10_follow_16 : decode cX10_follow 16 = .ok (.getfield 51, 3) := by decide +kernel
theorem dX10_follow_19 : decode cX10_follow 19 = .ok (.iload_n 2, 1) := by decide +kernel
theorem dX10_follow_20 : decode cX10_follow 20 = .ok (.iaload, 1) := by decide +kernel
theorem dX10_follow_21 : decode cX10_follow 21 = .ok (.tableswitch 121 0 6 #[43, 54, 65, 84, 95, 109, 111], 43) := by decide +kernel
theorem dX10_follow_64 : decode cX10_follow 64 = .ok (.aload_n 0, 1) := by decide +kernel
theorem dX10_follow_65 : decode cX10_follow 65 = .ok (.iload_n 3, 1) := by decide +kernel
theorem dX10_follow_66 : decode cX10_follow 66 = .ok (.iload 4, 2) := by decide +kernel
theorem dX10_follow_68 : decode cX10_follow 68 = .ok (.invokevirtual 54, 3) := by decide +kernel
theorem dX10_follow_71 : decode cX10_follow 71 = .ok (.iload_n 2, 1) := by decide +kernel
theorem dX10_follow_72 : decode cX10_follow 72 = .ok (.iconst 1, 1) := by decide +kernel
theorem dX10_follow_73 : decode cX10_follow 73 = .ok (.iadd, 1) := by decide +kernel
theorem dX10_follow_74 : decode cX10_follow 74 = .ok (.ireturn, 1) := by decide +kernel
theorem dX10_follow_75 : decode cX10_follow 75 = .ok (.aload_n 0, 1) := by decide +kernel
theorem dX10_follow_76 : decode cX10_follow 76 = .ok (.iload_n 3, 1) := by decide +kernel
theorem dX10_follow_77 : decode cX10_follow 77 = .ok (.iload 4, 2) := by decide +kernel
theorem dX10_follow_79 : decode cX10_follow 79 = .ok (.invokevirtual 58, 3) := by decide +kernel
theorem dX10_follow_82 : decode cX10_follow 82 = .ok (.iload_n 2, 1) := by decide +kernel
theorem dX10_follow_83 : decode cX10_follow 83 = .ok (.iconst 1, 1) := by decide +kernel
theorem dX10_follow_84 : decode cX10_follow 84 = .ok (.iadd, 1) := by decide +kernel
theorem dX10_follow_85 : decode cX10_follow 85 = .ok (.ireturn, 1) := by decide +kernel
theorem dX10_follow_86 : decode cX10_follow 86 = .ok (.aload_n 0, 1) := by decide +kernel
theorem dX10_follow_87 : decode cX10_follow 87 = .ok (.aload_n 0, 1) := by decide +kernel
theorem dX10_follow_88 : decode cX10_follow 88 = .ok (.getfield 9, 3) := by decide +kernel
theorem dX10_follow_91 : decode cX10_follow 91 = .ok (.aload_n 0, 1) := by decide +kernel
theorem dX10_follow_92 : decode cX10_follow 92 = .ok (.getfield 28, 3) := by decide +kernel
theorem dX10_follow_95 : decode cX10_follow 95 = .ok (.iaload, 1) := by decide +kernel
theorem dX10_follow_96 : decode cX10_follow 96 = .ok (.iload 4, 2) := by decide +kernel
theorem dX10_follow_98 : decode cX10_follow 98 = .ok (.invokevirtual 58, 3) := by decide +kernel
theorem dX10_follow_101 : decode cX10_follow 101 = .ok (.iload_n 2, 1) := by decide +kernel
theorem dX10_follow_102 : decode cX10_follow 102 = .ok (.iconst 1, 1) := by decide +kernel
theorem dX10_follow_103 : decode cX10_follow 103 = .ok (.iadd, 1) := by decide +kernel
theorem dX10_follow_104 : decode cX10_follow 104 = .ok (.ireturn, 1) := by decide +kernel
theorem dX10_follow_105 : decode cX10_follow 105 = .ok (.aload_n 0, 1) := by decide +kernel
theorem dX10_follow_106 : decode cX10_follow 106 = .ok (.iload_n 3, 1) := by decide +kernel
theorem dX10_follow_107 : decode cX10_follow 107 = .ok (.iload 4, 2) := by decide +kernel
theorem dX10_follow_109 : decode cX10_follow 109 = .ok (.invokevirtual 61, 3) := by decide +kernel
theorem dX10_follow_112 : decode cX10_follow 112 = .ok (.iload_n 2, 1) := by decide +kernel
theorem dX10_follow_113 : decode cX10_follow 113 = .ok (.iconst 1, 1) := by decide +kernel
theorem dX10_follow_114 : decode cX10_follow 114 = .ok (.iadd, 1) := by decide +kernel
theorem dX10_follow_115 : decode cX10_follow 115 = .ok (.ireturn, 1) := by decide +kernel
theorem dX10_follow_116 : decode cX10_follow 116 = .ok (.aload_n 0, 1) := by decide +kernel
theorem dX10_follow_117 : decode cX10_follow 117 = .ok (.iload_n 2, 1) := by decide +kernel
theorem dX10_follow_118 : decode cX10_follow 118 = .ok (.iconst 1, 1) := by decide +kernel
theorem dX10_follow_119 : decode cX10_follow 119 = .ok (.iadd, 1) := by decide +kernel
theorem dX10_follow_120 : decode cX10_follow 120 = .ok (.iload_n 3, 1) := by decide +kernel
theorem dX10_follow_121 : decode cX10_follow 121 = .ok (.iconst 1, 1) := by decide +kernel
theorem dX10_follow_122 : decode cX10_follow 122 = .ok (.isub, 1) := by decide +kernel
theorem dX10_follow_123 : decode cX10_follow 123 = .ok (.invokevirtual 64, 3) := by decide +kernel
theorem dX10_follow_126 : decode cX10_follow 126 = .ok (.iload_n 2, 1) := by decide +kernel
theorem dX10_follow_127 : decode cX10_follow 127 = .ok (.iconst 1, 1) := by decide +kernel
theorem dX10_follow_128 : decode cX10_follow 128 = .ok (.iadd, 1) := by decide +kernel
theorem dX10_follow_129 : decode cX10_follow 129 = .ok (.ireturn, 1) := by decide +kernel
theorem dX10_follow_130 : decode cX10_follow 130 = .ok (.iload_n 3, 1) := by decide +kernel
theorem dX10_follow_131 : decode cX10_follow 131 = .ok (.ireturn, 1) := by decide +kernel
theorem dX10_follow_132 : decode cX10_follow 132 = .ok (.aload_n 0, 1) := by decide +kernel
theorem dX10_follow_133 : decode cX10_follow 133 = .ok (.iload_n 2, 1) := by decide +kernel
theorem dX10_follow_134 : decode cX10_follow 134 = .ok (.iconst 1, 1) := by decide +kernel
theorem dX10_follow_135 : decode cX10_follow 135 = .ok (.iadd, 1) := by decide +kernel
theorem dX10_follow_136 : decode cX10_follow 136 = .ok (.iconst (-1), 1) := by decide +kernel
theorem dX10_follow_137 : decode cX10_follow 137 = .ok (.invokevirtual 64, 3) := by decide +kernel
theorem dX10_follow_140 : decode cX10_follow 140 = .ok (.iload_n 3, 1) := by decide +kernel
theorem dX10_follow_141 : decode cX10_follow 141 = .ok (.ireturn, 1) := by decide +kernel
theorem dX10_follow_142 : decode cX10_follow 142 = .ok (.aload_n 0, 1) := by decide +kernel
theorem dX10_follow_143 : decode cX10_follow 143 = .ok (.iload_n 2, 1) := by decide +kernel
theorem dX10_follow_144 : decode cX10_follow 144 = .ok (.invokevirtual 67, 3) := by decide +kernel
theorem dX10_follow_147 : decode cX10_follow 147 = .ok (.ireturn, 1) := by decide +kernel
theorem dX10_put_0 : decode cX10_put 0 = .ok (.iload_n 1, 1) := by decide +kernel
theorem dX10_put_1 : decode cX10_put 1 = .ok (.iconst (-1), 1) := by decide +kernel
theorem dX10_put_2 : decode cX10_put 2 = .ok (.if_icmp .eq 13, 3) := by decide +kernel
theorem dX10_put_5 : decode cX10_put 5 = .ok (.aload_n 0, 1) := by decide +kernel
theorem dX10_put_6 : decode cX10_put 6 = .ok (.getfield 9, 3) := by decide +kernel
theorem dX10_put_9 : decode cX10_put 9 = .ok (.aload_n 0, 1) := by decide +kernel
theorem dX10_put_10 : decode cX10_put 10 = .ok (.getfield 28, 3) := by decide +kernel
theorem dX10_put_13 : decode cX10_put 13 = .ok (.iload_n 1, 1) := by decide +kernel
theorem dX10_put_14 : decode cX10_put 14 = .ok (.iastore, 1) := by decide +kernel
theorem dX10_put_15 : decode cX10_put 15 = .ok (.iload_n 2, 1) := by decide +kernel
theorem dX10_put_16 : decode cX10_put 16 = .ok (.iconst (-1), 1) := by decide +kernel
theorem dX10_put_17 : decode cX10_put 17 = .ok (.if_icmp .eq 22, 3) := by decide +kernel
theorem dX10_put_20 : decode cX10_put 20 = .ok (.aload_n 0, 1) := by decide +kernel
theorem dX10_put_21 : decode cX10_put 21 = .ok (.getfield 18, 3) := by decide +kernel
theorem dX10_put_24 : decode cX10_put 24 = .ok (.aload_n 0, 1) := by decide +kernel
theorem dX10_put_25 : decode cX10_put 25 = .ok (.getfield 28, 3) := by decide +kernel
theorem dX10_put_28 : decode cX10_put 28 = .ok (.iload_n 2, 1) := by decide +kernel
theorem dX10_put_29 : decode cX10_put 29 = .ok (.iconst 1, 1) := by decide +kernel
theorem dX10_put_30 : decode cX10_put 30 = .ok (.if_icmp .ne 7, 3) := by decide +kernel
theorem dX10_put_33 : decode cX10_put 33 = .ok (.iconst 1, 1) := by decide +kernel
theorem dX10_put_34 : decode cX10_put 34 = .ok (.goto 4, 3) := by decide +kernel
theorem dX10_put_37 : decode cX10_put 37 = .ok (.iconst 0, 1) := by decide +kernel
theorem dX10_put_38 : decode cX10_put 38 = .ok (.bastore, 1) := by decide +kernel
theorem dX10_put_39 : decode cX10_put 39 = .ok (.return_, 1) := by decide +kernel
theorem dX10_goTo_0 : decode cX10_goTo 0 = .ok (.aload_n 0, 1) := by decide +kernel
theorem dX10_goTo_1 : decode cX10_goTo 1 = .ok (.getfield 9, 3) := by decide +kernel
theorem dX10_goTo_4 : decode cX10_goTo 4 = .ok (.aload_n 0, 1) := by decide +kernel
theorem dX10_goTo_5 : decode cX10_goTo 5 = .ok (.getfield 28, 3) := by decide +kernel
theorem dX10_goTo_8 : decode cX10_goTo 8 = .ok (.iaload, 1) := by decide +kernel
theorem dX10_goTo_9 : decode cX10_goTo 9 = .ok (.istore_n 3, 1) := by decide +kernel
theorem dX10_goTo_10 : decode cX10_goTo 10 = .ok (.iconst 1, 1) := by decide +kernel
theorem dX10_goTo_11 : decode cX10_goTo 11 = .ok (.istore 4, 2) := by decide +kernel
theorem dX10_goTo_13 : decode cX10_goTo 13 = .ok (.iload 4, 2) := by decide +kernel
theorem dX10_goTo_15 : decode cX10_goTo 15 = .ok (.iload_n 2, 1) := by decide +kernel
theorem dX10_goTo_16 : decode cX10_goTo 16 = .ok (.if_icmp .gt 30, 3) := by decide +kernel
theorem dX10_goTo_19 : decode cX10_goTo 19 = .ok (.iload_n 2, 1) := by decide +kernel
theorem dX10_goTo_20 : decode cX10_goTo 20 = .ok (.ifCond .le 26, 3) := by decide +kernel
theorem dX10_goTo_23 : decode cX10_goTo 23 = .ok (.aload_n 0, 1) := by decide +kernel
theorem dX10_goTo_24 : decode cX10_goTo 24 = .ok (.iload_n 3, 1) := by decide +kernel
theorem dX10_goTo_25 : decode cX10_goTo 25 = .ok (.iload_n 1, 1) := by decide +kernel
theorem dX10_goTo_26 : decode cX10_goTo 26 = .ok (.iload_n 3, 1) := by decide +kernel
theorem dX10_goTo_27 : decode cX10_goTo 27 = .ok (.isub, 1) := by decide +kernel
theorem dX10_goTo_28 : decode cX10_goTo 28 = .ok (.iload 4, 2) := by decide +kernel
theorem dX10_goTo_30 : decode cX10_goTo 30 = .ok (.imul, 1) := by decide +kernel
theorem dX10_goTo_31 : decode cX10_goTo 31 = .ok (.iload_n 2, 1) := by decide +kernel
theorem dX10_goTo_32 : decode cX10_goTo 32 = .ok (.invokestatic 71, 3) := by decide +kernel
theorem dX10_goTo_35 : decode cX10_goTo 35 = .ok (.iadd, 1) := by decide +kernel
theorem dX10_goTo_36 : decode cX10_goTo 36 = .ok (.iconst 0, 1) := by decide +kernel
theorem dX10_goTo_37 : decode cX10_goTo 37 = .ok (.invokevirtual 77, 3) := by decide +kernel
theorem dX10_goTo_40 : decode cX10_goTo 40 = .ok (.iinc 4 1, 3) := by decide +kernel
theorem dX10_goTo_43 : decode cX10_goTo 43 = .ok (.goto (-30), 3) := by decide +kernel
theorem dX10_goTo_46 : decode cX10_goTo 46 = .ok (.return_, 1) := by decide +kernel
theorem dX10_rise_0 : decode cX10_rise 0 = .ok (.aload_n 0, 1) := by decide +kernel
theorem dX10_rise_1 : decode cX10_rise 1 = .ok (.getfield 9, 3) := by decide +kernel
theorem dX10_rise_4 : decode cX10_rise 4 = .ok (.aload_n 0, 1) := by decide +kernel
theorem dX10_rise_5 : decode cX10_rise 5 = .ok (.getfield 28, 3) := by decide +kernel
theorem dX10_rise_8 : decode cX10_rise 8 = .ok (.iaload, 1) := by decide +kernel
theorem dX10_rise_9 : decode cX10_rise 9 = .ok (.istore_n 3, 1) := by decide +kernel
theorem dX10_rise_10 : decode cX10_rise 10 = .ok (.iconst 1, 1) := by decide +kernel
theorem dX10_rise_11 : decode cX10_rise 11 = .ok (.istore 4, 2) := by decide +kernel
theorem dX10_rise_13 : decode cX10_rise 13 = .ok (.iload 4, 2) := by decide +kernel
theorem dX10_rise_15 : decode cX10_rise 15 = .ok (.iload_n 2, 1) := by decide +kernel
theorem dX10_rise_16 : decode cX10_rise 16 = .ok (.if_icmp .gt 33, 3) := by decide +kernel
theorem dX10_rise_19 : decode cX10_rise 19 = .ok (.iload_n 2, 1) := by decide +kernel
theorem dX10_rise_20 : decode cX10_rise 20 = .ok (.ifCond .le 29, 3) := by decide +kernel
theorem dX10_rise_23 : decode cX10_rise 23 = .ok (.aload_n 0, 1) := by decide +kernel
theorem dX10_rise_24 : decode cX10_rise 24 = .ok (.iload_n 3, 1) := by decide +kernel
theorem dX10_rise_25 : decode cX10_rise 25 = .ok (.iconst 4, 1) := by decide +kernel
theorem dX10_rise_26 : decode cX10_rise 26 = .ok (.iload_n 1, 1) := by decide +kernel
theorem dX10_rise_27 : decode cX10_rise 27 = .ok (.imul, 1) := by decide +kernel
theorem dX10_rise_28 : decode cX10_rise 28 = .ok (.iload 4, 2) := by decide +kernel
theorem dX10_rise_30 : decode cX10_rise 30 = .ok (.imul, 1) := by decide +kernel
theorem dX10_rise_31 : decode cX10_rise 31 = .ok (.iload_n 2, 1) := by decide +kernel
theorem dX10_rise_32 : decode cX10_rise 32 = .ok (.iload 4, 2) := by decide +kernel
theorem dX10_rise_34 : decode cX10_rise 34 = .ok (.isub, 1) := by decide +kernel
theorem dX10_rise_35 : decode cX10_rise 35 = .ok (.imul, 1) := by decide +kernel
theorem dX10_rise_36 : decode cX10_rise 36 = .ok (.iload_n 2, 1) := by decide +kernel
theorem dX10_rise_37 : decode cX10_rise 37 = .ok (.iload_n 2, 1) := by decide +kernel
theorem dX10_rise_38 : decode cX10_rise 38 = .ok (.imul, 1) := by decide +kernel
theorem dX10_rise_39 : decode cX10_rise 39 = .ok (.idiv, 1) := by decide +kernel
theorem dX10_rise_40 : decode cX10_rise 40 = .ok (.invokevirtual 77, 3) := by decide +kernel
theorem dX10_rise_43 : decode cX10_rise 43 = .ok (.iinc 4 1, 3) := by decide +kernel
theorem dX10_rise_46 : decode cX10_rise 46 = .ok (.goto (-33), 3) := by decide +kernel
theorem dX10_rise_49 : decode cX10_rise 49 = .ok (.return_, 1) := by decide +kernel
theorem dX10_addCount_0 : decode cX10_addCount 0 = .ok (.aload_n 0, 1) := by decide +kernel
theorem dX10_addCount_1 : decode cX10_addCount 1 = .ok (.getfield 28, 3) := by decide +kernel
theorem dX10_addCount_4 : decode cX10_addCount 4 = .ok (.sipush 240, 3) := by decide +kernel
theorem dX10_addCount_7 : decode cX10_addCount 7 = .ok (.if_icmp .ge 53, 3) := by decide +kernel
theorem dX10_addCount_10 : decode cX10_addCount 10 = .ok (.aload_n 0, 1) := by decide +kernel
theorem dX10_addCount_11 : decode cX10_addCount 11 = .ok (.dup, 1) := by decide +kernel
theorem dX10_addCount_12 : decode cX10_addCount 12 = .ok (.getfield 28, 3) := by decide +kernel
theorem dX10_addCount_15 : decode cX10_addCount 15 = .ok (.iconst 1, 1) := by decide +kernel
theorem dX10_addCount_16 : decode cX10_addCount 16 = .ok (.iadd, 1) := by decide +kernel
theorem dX10_addCount_17 : decode cX10_addCount 17 = .ok (.putfield 28, 3) := by decide +kernel
theorem dX10_addCount_20 : decode cX10_addCount 20 = .ok (.aload_n 0, 1) := by decide +kernel
theorem dX10_addCount_21 : decode cX10_addCount 21 = .ok (.getfield 9, 3) := by decide +kernel
theorem dX10_addCount_24 : decode cX10_addCount 24 = .ok (.aload_n 0, 1) := by decide +kernel
theorem dX10_addCount_25 : decode cX10_addCount 25 = .ok (.getfield 28, 3) := by decide +kernel
theorem dX10_addCount_28 : decode cX10_addCount 28 = .ok (.iload_n 1, 1) := by decide +kernel
theorem dX10_addCount_29 : decode cX10_addCount 29 = .ok (.iastore, 1) := by decide +kernel
theorem dX10_addCount_30 : decode cX10_addCount 30 = .ok (.aload_n 0, 1) := by decide +kernel
theorem dX10_addCount_31 : decode cX10_addCount 31 = .ok (.getfield 15, 3) := by decide +kernel
theorem dX10_addCount_34 : decode cX10_addCount 34 = .ok (.aload_n 0, 1) := by decide +kernel
theorem dX10_addCount_35 : decode cX10_addCount 35 = .ok (.getfield 28, 3) := by decide +kernel
theorem dX10_addCount_38 : decode cX10_addCount 38 = .ok (.iload_n 2, 1) := by decide +kernel
theorem dX10_addCount_39 : decode cX10_addCount 39 = .ok (.iastore, 1) := by decide +kernel
theorem dX10_addCount_40 : decode cX10_addCount 40 = .ok (.aload_n 0, 1) := by decide +kernel
theorem dX10_addCount_41 : decode cX10_addCount 41 = .ok (.getfield 18, 3) := by decide +kernel
theorem dX10_addCount_44 : decode cX10_addCount 44 = .ok (.aload_n 0, 1) := by decide +kernel
theorem dX10_addCount_45 : decode cX10_addCount 45 = .ok (.getfield 28, 3) := by decide +kernel
theorem dX10_addCount_48 : decode cX10_addCount 48 = .ok (.aload_n 0, 1) := by decide +kernel
theorem dX10_addCount_49 : decode cX10_addCount 49 = .ok (.getfield 18, 3) := by decide +kernel
theorem dX10_addCount_52 : decode cX10_addCount 52 = .ok (.aload_n 0, 1) := by decide +kernel
theorem dX10_addCount_53 : decode cX10_addCount 53 = .ok (.getfield 28, 3) := by decide +kernel
theorem dX10_addCount_56 : decode cX10_addCount 56 = .ok (.iconst 1, 1) := by decide +kernel
theorem dX10_addCount_57 : decode cX10_addCount 57 = .ok (.isub, 1) := by decide +kernel
theorem dX10_addCount_58 : decode cX10_addCount 58 = .ok (.baload, 1) := by decide +kernel
theorem dX10_addCount_59 : decode cX10_addCount 59 = .ok (.bastore, 1) := by decide +kernel
theorem dX10_addCount_60 : decode cX10_addCount 60 = .ok (.return_, 1) := by decide +kernel
theorem dX10_enter_0 : decode cX10_enter 0 = .ok (.aload_n 0, 1) := by decide +kernel
theorem dX10_enter_1 : decode cX10_enter 1 = .ok (.getfield 32, 3) := by decide +kernel
theorem dX10_enter_4 : decode cX10_enter 4 = .ok (.bipush 80, 2) := by decide +kernel
theorem dX10_enter_6 : decode cX10_enter 6 = .ok (.if_icmp .ge 33, 3) := by decide +kernel
theorem dX10_enter_9 : decode cX10_enter 9 = .ok (.aload_n 0, 1) := by decide +kernel
theorem dX10_enter_10 : decode cX10_enter 10 = .ok (.getfield 22, 3) := by decide +kernel
theorem dX10_enter_13 : decode cX10_enter 13 = .ok (.aload_n 0, 1) := by decide +kernel
theorem dX10_enter_14 : decode cX10_enter 14 = .ok (.getfield 32, 3) := by decide +kernel
theorem dX10_enter_17 : decode cX10_enter 17 = .ok (.iload_n 1, 1) := by decide +kernel
theorem dX10_enter_18 : decode cX10_enter 18 = .ok (.iastore, 1) := by decide +kernel
theorem dX10_enter_19 : decode cX10_enter 19 = .ok (.aload_n 0, 1) := by decide +kernel
theorem dX10_enter_20 : decode cX10_enter 20 = .ok (.getfield 25, 3) := by decide +kernel
theorem dX10_enter_23 : decode cX10_enter 23 = .ok (.aload_n 0, 1) := by decide +kernel
theorem dX10_enter_24 : decode cX10_enter 24 = .ok (.getfield 32, 3) := by decide +kernel
theorem dX10_enter_27 : decode cX10_enter 27 = .ok (.iload_n 2, 1) := by decide +kernel
theorem dX10_enter_28 : decode cX10_enter 28 = .ok (.iastore, 1) := by decide +kernel
theorem dX10_enter_29 : decode cX10_enter 29 = .ok (.aload_n 0, 1) := by decide +kernel
theorem dX10_enter_30 : decode cX10_enter 30 = .ok (.dup, 1) := by decide +kernel
theorem dX10_enter_31 : decode cX10_enter 31 = .ok (.getfield 32, 3) := by decide +kernel
theorem dX10_enter_34 : decode cX10_enter 34 = .ok (.iconst 1, 1) := by decide +kernel
theorem dX10_enter_35 : decode cX10_enter 35 = .ok (.iadd, 1) := by decide +kernel
theorem dX10_enter_36 : decode cX10_enter 36 = .ok (.putfield 32, 3) := by decide +kernel
theorem dX10_enter_39 : decode cX10_enter 39 = .ok (.return_, 1) := by decide +kernel
theorem dX10_comeBack_0 : decode cX10_comeBack 0 = .ok (.aload_n 0, 1) := by decide +kernel
theorem dX10_comeBack_1 : decode cX10_comeBack 1 = .ok (.getfield 32, 3) := by decide +kernel
theorem dX10_comeBack_4 : decode cX10_comeBack 4 = .ok (.iconst 1, 1) := by decide +kernel
theorem dX10_comeBack_5 : decode cX10_comeBack 5 = .ok (.if_icmp .ge 7, 3) := by decide +kernel
theorem dX10_comeBack_8 : decode cX10_comeBack 8 = .ok (.iload_n 1, 1) := by decide +kernel
theorem dX10_comeBack_9 : decode cX10_comeBack 9 = .ok (.iconst 1, 1) := by decide +kernel
theorem dX10_comeBack_10 : decode cX10_comeBack 10 = .ok (.iadd, 1) := by decide +kernel
theorem dX10_comeBack_11 : decode cX10_comeBack 11 = .ok (.ireturn, 1) := by decide +kernel
theorem dX10_comeBack_12 : decode cX10_comeBack 12 = .ok (.aload_n 0, 1) := by decide +kernel
theorem dX10_comeBack_13 : decode cX10_comeBack 13 = .ok (.getfield 32, 3) := by decide +kernel
theorem dX10_comeBack_16 : decode cX10_comeBack 16 = .ok (.iconst 1, 1) := by decide +kernel
theorem dX10_comeBack_17 : decode cX10_comeBack 17 = .ok (.isub, 1) := by decide +kernel
theorem dX10_comeBack_18 : decode cX10_comeBack 18 = .ok (.istore_n 2, 1) := by decide +kernel
theorem dX10_comeBack_19 : decode cX10_comeBack 19 = .ok (.aload_n 0, 1) := by decide +kernel
theorem dX10_comeBack_20 : decode cX10_comeBack 20 = .ok (.getfield 25, 3) := by decide +kernel
theorem dX10_comeBack_23 : decode cX10_comeBack 23 = .ok (.iload_n 2, 1) := by decide +kernel
theorem dX10_comeBack_24 : decode cX10_comeBack 24 = .ok (.iaload, 1) := by decide +kernel
theorem dX10_comeBack_25 : decode cX10_comeBack 25 = .ok (.ifCond .le 20, 3) := by decide +kernel
theorem dX10_comeBack_28 : decode cX10_comeBack 28 = .ok (.aload_n 0, 1) := by decide +kernel
theorem dX10_comeBack_29 : decode cX10_comeBack 29 = .ok (.getfield 25, 3) := by decide +kernel
theorem dX10_comeBack_32 : decode cX10_comeBack 32 = .ok (.iload_n 2, 1) := by decide +kernel
theorem dX10_comeBack_33 : decode cX10_comeBack 33 = .ok (.dup2, 1) := by decide +kernel
theorem dX10_comeBack_34 : decode cX10_comeBack 34 = .ok (.iaload, 1) := by decide +kernel
theorem dX10_comeBack_35 : decode cX10_comeBack 35 = .ok (.iconst 1, 1) := by decide +kernel
theorem dX10_comeBack_36 : decode cX10_comeBack 36 = .ok (.isub, 1) := by decide +kernel
theorem dX10_comeBack_37 : decode cX10_comeBack 37 = .ok (.iastore, 1) := by decide +kernel
theorem dX10_comeBack_38 : decode cX10_comeBack 38 = .ok (.aload_n 0, 1) := by decide +kernel
theorem dX10_comeBack_39 : decode cX10_comeBack 39 = .ok (.getfield 22, 3) := by decide +kernel
theorem dX10_comeBack_42 : decode cX10_comeBack 42 = .ok (.iload_n 2, 1) := by decide +kernel
theorem dX10_comeBack_43 : decode cX10_comeBack 43 = .ok (.iaload, 1) := by decide +kernel
theorem dX10_comeBack_44 : decode cX10_comeBack 44 = .ok (.ireturn, 1) := by decide +kernel
theorem dX10_comeBack_45 : decode cX10_comeBack 45 = .ok (.aload_n 0, 1) := by decide +kernel
theorem dX10_comeBack_46 : decode cX10_comeBack 46 = .ok (.iload_n 2, 1) := by decide +kernel
theorem dX10_comeBack_47 : decode cX10_comeBack 47 = .ok (.putfield 32, 3) := by decide +kernel
theorem dX10_comeBack_50 : decode cX10_comeBack 50 = .ok (.aload_n 0, 1) := by decide +kernel
theorem dX10_comeBack_51 : decode cX10_comeBack 51 = .ok (.getfield 25, 3) := by decide +kernel
theorem dX10_comeBack_54 : decode cX10_comeBack 54 = .ok (.iload_n 2, 1) := by decide +kernel
theorem dX10_comeBack_55 : decode cX10_comeBack 55 = .ok (.iaload, 1) := by decide +kernel
theorem dX10_comeBack_56 : decode cX10_comeBack 56 = .ok (.iconst (-1), 1) := by decide +kernel
theorem dX10_comeBack_57 : decode cX10_comeBack 57 = .ok (.if_icmp .ne 12, 3) := by decide +kernel
theorem dX10_comeBack_60 : decode cX10_comeBack 60 = .ok (.aload_n 0, 1) := by decide +kernel
theorem dX10_comeBack_61 : decode cX10_comeBack 61 = .ok (.getfield 22, 3) := by decide +kernel
theorem dX10_comeBack_64 : decode cX10_comeBack 64 = .ok (.iload_n 2, 1) := by decide +kernel
theorem dX10_comeBack_65 : decode cX10_comeBack 65 = .ok (.iaload, 1) := by decide +kernel
theorem dX10_comeBack_66 : decode cX10_comeBack 66 = .ok (.goto 6, 3) := by decide +kernel
theorem dX10_comeBack_69 : decode cX10_comeBack 69 = .ok (.iload_n 1, 1) := by decide +kernel
theorem dX10_comeBack_70 : decode cX10_comeBack 70 = .ok (.iconst 1, 1) := by decide +kernel
theorem dX10_comeBack_71 : decode cX10_comeBack 71 = .ok (.iadd, 1) := by decide +kernel
theorem dX10_comeBack_72 : decode cX10_comeBack 72 = .ok (.ireturn, 1) := by decide +kernel
theorem dX11_init_0 : decode cX11_init 0 = .ok (.aload_n 0, 1) := by decide +kernel
theorem dX11_init_1 : decode cX11_init 1 = .ok (.invokespecial 1, 3) := by decide +kernel
theorem dX11_init_4 : decode cX11_init 4 = .ok (.aload_n 0, 1) := by decide +kernel
theorem dX11_init_5 : decode cX11_init 5 = .ok (.new 7, 3) := by decide +kernel
theorem dX11_init_8 : decode cX11_init 8 = .ok (.dup, 1) := by decide +kernel
theorem dX11_init_9 : decode cX11_init 9 = .ok (.invokespecial 9, 3) := by decide +kernel
theorem dX11_init_12 : decode cX11_init 12 = .ok (.putfield 10, 3) := by decide +kernel
theorem dX11_init_15 : decode cX11_init 15 = .ok (.aload_n 0, 1) := by decide +kernel
theorem dX11_init_16 : decode cX11_init 16 = .ok (.new 16, 3) := by decide +kernel
theorem dX11_init_19 : decode cX11_init 19 = .ok (.dup, 1) := by decide +kernel
theorem dX11_init_20 : decode cX11_init 20 = .ok (.aload_n 0, 1) := by decide +kernel
theorem dX11_init_21 : decode cX11_init 21 = .ok (.getfield 10, 3) := by decide +kernel
theorem dX11_init_24 : decode cX11_init 24 = .ok (.invokespecial 18, 3) := by decide +kernel
theorem dX11_init_27 : decode cX11_init 27 = .ok (.putfield 21, 3) := by decide +kernel
theorem dX11_init_30 : decode cX11_init 30 = .ok (.aload_n 0, 1) := by decide +kernel
theorem dX11_init_31 : decode cX11_init 31 = .ok (.new 25, 3) := by decide +kernel
theorem dX11_init_34 : decode cX11_init 34 = .ok (.dup, 1) := by decide +kernel
theorem dX11_init_35 : decode cX11_init 35 = .ok (.invokespecial 27, 3) := by decide +kernel
theorem dX11_init_38 : decode cX11_init 38 = .ok (.putfield 28, 3) := by decide +kernel
theorem dX11_init_41 : decode cX11_init 41 = .ok (.aload_n 0, 1) := by decide +kernel
theorem dX11_init_42 : decode cX11_init 42 = .ok (.new 32, 3) := by decide +kernel
theorem dX11_init_45 : decode cX11_init 45 = .ok (.dup, 1) := by decide +kernel
theorem dX11_init_46 : decode cX11_init 46 = .ok (.invokespecial 34, 3) := by decide +kernel
theorem dX11_init_49 : decode cX11_init 49 = .ok (.putfield 35, 3) := by decide +kernel
theorem dX11_init_52 : decode cX11_init 52 = .ok (.aload_n 0, 1) := by decide +kernel
theorem dX11_init_53 : decode cX11_init 53 = .ok (.new 39, 3) := by decide +kernel
theorem dX11_init_56 : decode cX11_init 56 = .ok (.dup, 1) := by decide +kernel
theorem dX11_init_57 : decode cX11_init 57 = .ok (.aload_n 0, 1) := by decide +kernel
theorem dX11_init_58 : decode cX11_init 58 = .ok (.getfield 35, 3) := by decide +kernel
theorem dX11_init_61 : decode cX11_init 61 = .ok (.aload_n 0, 1) := by decide +kernel
theorem dX11_init_62 : decode cX11_init 62 = .ok (.getfield 28, 3) := by decide +kernel
theorem dX11_init_65 : decode cX11_init 65 = .ok (.invokespecial 41, 3) := by decide +kernel
theorem dX11_init_68 : decode cX11_init 68 = .ok (.putfield 44, 3) := by decide +kernel
theorem dX11_init_71 : decode cX11_init 71 = .ok (.aload_n 0, 1) := by decide +kernel
theorem dX11_init_72 : decode cX11_init 72 = .ok (.new 48, 3) := by decide +kernel
theorem dX11_init_75 : decode cX11_init 75 = .ok (.dup, 1) := by decide +kernel
theorem dX11_init_76 : decode cX11_init 76 = .ok (.invokespecial 50, 3) := by decide +kernel
theorem dX11_init_79 : decode cX11_init 79 = .ok (.putfield 51, 3) := by decide +kernel
theorem dX11_init_82 : decode cX11_init 82 = .ok (.aload_n 0, 1) := by decide +kernel
theorem dX11_init_83 : decode cX11_init 83 = .ok (.new 55, 3) := by decide +kernel
theorem dX11_init_86 : decode cX11_init 86 = .ok (.dup, 1) := by decide +kernel
theorem dX11_init_87 : decode cX11_init 87 = .ok (.invokespecial 57, 3) := by decide +kernel
theorem dX11_init_90 : decode cX11_init 90 = .ok (.putfield 58, 3) := by decide +kernel
theorem dX11_init_93 : decode cX11_init 93 = .ok (.aload_n 0, 1) := by decide +kernel
theorem dX11_init_94 : decode cX11_init 94 = .ok (.new 62, 3) := by decide +kernel
theorem dX11_init_97 : decode cX11_init 97 = .ok (.dup, 1) := by decide +kernel
theorem dX11_init_98 : decode cX11_init 98 = .ok (.invokespecial 64, 3) := by decide +kernel
theorem dX11_init_101 : decode cX11_init 101 = .ok (.putfield 65, 3) := by decide +kernel
theorem dX11_init_104 : decode cX11_init 104 = .ok (.return_, 1) := by decide +kernel
theorem dX11_feed_0 : decode cX11_feed 0 = .ok (.aload_n 0, 1) := by decide +kernel
theorem dX11_feed_1 : decode cX11_feed 1 = .ok (.getfield 10, 3) := by decide +kernel
theorem dX11_feed_4 : decode cX11_feed 4 = .ok (.invokevirtual 69, 3) := by decide +kernel
theorem dX11_feed_7 : decode cX11_feed 7 = .ok (.ifCond .ne 5, 3) := by decide +kernel
theorem dX11_feed_10 : decode cX11_feed 10 = .ok (.iconst (-1), 1) := by decide +kernel
theorem dX11_feed_11 : decode cX11_feed 11 = .ok (.ireturn, 1) := by decide +kernel
theorem dX11_feed_12 : decode cX11_feed 12 = .ok (.aload_n 0, 1) := by decide +kernel
theorem dX11_feed_13 : decode cX11_feed 13 = .ok (.getfield 10, 3) := by decide +kernel
theorem dX11_feed_16 : decode cX11_feed 16 = .ok (.iload_n 1, 1) := by decide +kernel
theorem dX11_feed_17 : decode cX11_feed 17 = .ok (.invokevirtual 73, 3) := by decide +kernel
theorem dX11_feed_20 : decode cX11_feed 20 = .ok (.aload_n 0, 1) := by decide +kernel
theorem dX11_feed_21 : decode cX11_feed 21 = .ok (.getfield 10, 3) := by decide +kernel
theorem dX11_feed_24 : decode cX11_feed 24 = .ok (.iload_n 2, 1) := by decide +kernel
theorem dX11_feed_25 : decode cX11_feed 25 = .ok (.invokevirtual 73, 3) := by decide +kernel
theorem dX11_feed_28 : decode cX11_feed 28 = .ok (.aload_n 0, 1) := by decide +kernel
theorem dX11_feed_29 : decode cX11_feed 29 = .ok (.getfield 10, 3) := by decide +kernel
theorem dX11_feed_32 : decode cX11_feed 32 = .ok (.iload_n 3, 1) := by decide +kernel
theorem dX11_feed_33 : decode cX11_feed 33 = .ok (.invokevirtual 73, 3) := by decide +kernel
theorem dX11_feed_36 : decode cX11_feed 36 = .ok (.aload_n 0, 1) := by decide +kernel
theorem dX11_feed_37 : decode cX11_feed 37 = .ok (.getfield 10, 3) := by decide +kernel
theorem dX11_feed_40 : decode cX11_feed 40 = .ok (.iload 4, 2) := by decide +kernel
theorem dX11_feed_42 : decode cX11_feed 42 = .ok (.invokevirtual 73, 3) := by decide +kernel
theorem dX11_feed_45 : decode cX11_feed 45 = .ok (.aload_n 0, 1) := by decide +kernel
theorem dX11_feed_46 : decode cX11_feed 46 = .ok (.getfield 10, 3) := by decide +kernel
theorem dX11_feed_49 : decode cX11_feed 49 = .ok (.iload 5, 2) := by decide +kernel
theorem dX11_feed_51 : decode cX11_feed 51 = .ok (.invokevirtual 73, 3) := by decide +kernel
theorem dX11_feed_54 : decode cX11_feed 54 = .ok (.aload_n 0, 1) := by decide +kernel
theorem dX11_feed_55 : decode cX11_feed 55 = .ok (.getfield 10, 3) := by decide +kernel
theorem dX11_feed_58 : decode cX11_feed 58 = .ok (.getfield 77, 3) := by decide +kernel
theorem dX11_feed_61 : decode cX11_feed 61 = .ok (.ireturn, 1) := by decide +kernel
theorem dX11_end_0 : decode cX11_end 0 = .ok (.iload_n 1, 1) := by decide +kernel
theorem dX11_end_1 : decode cX11_end 1 = .ok (.ifCond .lt 14, 3) := by decide +kernel
theorem dX11_end_4 : decode cX11_end 4 = .ok (.iload_n 1, 1) := by decide +kernel
theorem dX11_end_5 : decode cX11_end 5 = .ok (.aload_n 0, 1) := by decide +kernel
theorem dX11_end_6 : decode cX11_end 6 = .ok (.getfield 10, 3) := by decide +kernel
theorem dX11_end_9 : decode cX11_end 9 = .ok (.getfield 77, 3) := by decide +kernel
theorem dX11_end_12 : decode cX11_end 12 = .ok (.if_icmp .le 5, 3) := by decide +kernel
theorem dX11_end_15 : decode cX11_end 15 = .ok (.iconst 0, 1) := by decide +kernel
theorem dX11_end_16 : decode cX11_end 16 = .ok (.ireturn, 1) := by decide +kernel
theorem dX11_end_17 : decode cX11_end 17 = .ok (.aload_n 0, 1) := by decide +kernel
theorem dX11_end_18 : decode cX11_end 18 = .ok (.getfield 10, 3) := by decide +kernel
theorem dX11_end_21 : decode cX11_end 21 = .ok (.iload_n 1, 1) := by decide +kernel
theorem dX11_end_22 : decode cX11_end 22 = .ok (.putfield 77, 3) := by decide +kernel
theorem dX11_end_25 : decode cX11_end 25 = .ok (.iconst 1, 1) := by decide +kernel
theorem dX11_end_26 : decode cX11_end 26 = .ok (.ireturn, 1) := by decide +kernel
theorem dX11_pane_0 : decode cX11_pane 0 = .ok (.iload_n 1, 1) := by decide +kernel
theorem dX11_pane_1 : decode cX11_pane 1 = .ok (.iload_n 2, 1) := by decide +kernel
theorem dX11_pane_2 : decode cX11_pane 2 = .ok (.iload_n 3, 1) := by decide +kernel
theorem dX11_pane_3 : decode cX11_pane 3 = .ok (.iload 4, 2) := by decide +kernel
theorem dX11_pane_5 : decode cX11_pane 5 = .ok (.invokestatic 81, 3) := by decide +kernel
theorem dX11_pane_8 : decode cX11_pane 8 = .ok (.ifCond .ne 5, 3) := by decide +kernel
theorem dX11_pane_11 : decode cX11_pane 11 = .ok (.iconst 0, 1) := by decide +kernel
theorem dX11_pane_12 : decode cX11_pane 12 = .ok (.ireturn, 1) := by decide +kernel
theorem dX11_pane_13 : decode cX11_pane 13 = .ok (.aload_n 0, 1) := by decide +kernel
theorem dX11_pane_14 : decode cX11_pane 14 = .ok (.getfield 35, 3) := by decide +kernel
theorem dX11_pane_17 : decode cX11_pane 17 = .ok (.iload_n 1, 1) := by decide +kernel
theorem dX11_pane_18 : decode cX11_pane 18 = .ok (.putfield 85, 3) := by decide +kernel
theorem dX11_pane_21 : decode cX11_pane 21 = .ok (.aload_n 0, 1) := by decide +kernel
theorem dX11_pane_22 : decode cX11_pane 22 = .ok (.getfield 35, 3) := by decide +kernel
theorem dX11_pane_25 : decode cX11_pane 25 = .ok (.iload_n 2, 1) := by decide +kernel
theorem dX11_pane_26 : decode cX11_pane 26 = .ok (.putfield 88, 3) := by decide +kernel
theorem dX11_pane_29 : decode cX11_pane 29 = .ok (.aload_n 0, 1) := by decide +kernel
theorem dX11_pane_30 : decode cX11_pane 30 = .ok (.getfield 35, 3) := by decide +kernel
theorem dX11_pane_33 : decode cX11_pane 33 = .ok (.iload_n 3, 1) := by decide +kernel
theorem dX11_pane_34 : decode cX11_pane 34 = .ok (.putfield 91, 3) := by decide +kernel
theorem dX11_pane_37 : decode cX11_pane 37 = .ok (.aload_n 0, 1) := by decide +kernel
theorem dX11_pane_38 : decode cX11_pane 38 = .ok (.getfield 35, 3) := by decide +kernel
theorem dX11_pane_41 : decode cX11_pane 41 = .ok (.iload 4, 2) := by decide +kernel
theorem dX11_pane_43 : decode cX11_pane 43 = .ok (.putfield 94, 3) := by decide +kernel
theorem dX11_pane_46 : decode cX11_pane 46 = .ok (.iconst 1, 1) := by decide +kernel
theorem dX11_pane_47 : decode cX11_pane 47 = .ok (.ireturn, 1) := by decide +kernel
theorem dX11_board_0 : decode cX11_board 0 = .ok (.iload_n 1, 1) := by decide +kernel
theorem dX11_board_1 : decode cX11_board 1 = .ok (.iload_n 2, 1) := by decide +kernel
theorem dX11_board_2 : decode cX11_board 2 = .ok (.iload_n 3, 1) := by decide +kernel
theorem dX11_board_3 : decode cX11_board 3 = .ok (.iload 4, 2) := by decide +kernel
theorem dX11_board_5 : decode cX11_board 5 = .ok (.invokestatic 81, 3) := by decide +kernel
theorem dX11_board_8 : decode cX11_board 8 = .ok (.ifCond .ne 5, 3) := by decide +kernel
theorem dX11_board_11 : decode cX11_board 11 = .ok (.iconst 0, 1) := by decide +kernel
theorem dX11_board_12 : decode cX11_board 12 = .ok (.ireturn, 1) := by decide +kernel
theorem dX11_board_13 : decode cX11_board 13 = .ok (.aload_n 0, 1) := by decide +kernel
theorem dX11_board_14 : decode cX11_board 14 = .ok (.getfield 35, 3) := by decide +kernel
theorem dX11_board_17 : decode cX11_board 17 = .ok (.iload_n 1, 1) := by decide +kernel
theorem dX11_board_18 : decode cX11_board 18 = .ok (.putfield 97, 3) := by decide +kernel
theorem dX11_board_21 : decode cX11_board 21 = .ok (.aload_n 0, 1) := by decide +kernel
theorem dX11_board_22 : decode cX11_board 22 = .ok (.getfield 35, 3) := by decide +kernel
theorem dX11_board_25 : decode cX11_board 25 = .ok (.iload_n 2, 1) := by decide +kernel
theorem dX11_board_26 : decode cX11_board 26 = .ok (.putfield 100, 3) := by decide +kernel
theorem dX11_board_29 : decode cX11_board 29 = .ok (.aload_n 0, 1) := by decide +kernel
theorem dX11_board_30 : decode cX11_board 30 = .ok (.getfield 35, 3) := by decide +kernel
theorem dX11_board_33 : decode cX11_board 33 = .ok (.iload_n 3, 1) := by decide +kernel
theorem dX11_board_34 : decode cX11_board 34 = .ok (.putfield 103, 3) := by decide +kernel
theorem dX11_board_37 : decode cX11_board 37 = .ok (.aload_n 0, 1) := by decide +kernel
theorem dX11_board_38 : decode cX11_board 38 = .ok (.getfield 35, 3) := by decide +kernel
theorem dX11_board_41 : decode cX11_board 41 = .ok (.iload 4, 2) := by decide +kernel
theorem dX11_board_43 : decode cX11_board 43 = .ok (.putfield 106, 3) := by decide +kernel
theorem dX11_board_46 : decode cX11_board 46 = .ok (.iconst 1, 1) := by decide +kernel
theorem dX11_board_47 : decode cX11_board 47 = .ok (.ireturn, 1) := by decide +kernel
theorem dX11_heights_0 : decode cX11_heights 0 = .ok (.iload_n 1, 1) := by decide +kernel
theorem dX11_heights_1 : decode cX11_heights 1 = .ok (.bipush (-100), 2) := by decide +kernel
theorem dX11_heights_3 : decode cX11_heights 3 = .ok (.bipush 100, 2) := by decide +kernel
theorem dX11_heights_5 : decode cX11_heights 5 = .ok (.invokestatic 109, 3) := by decide +kernel
theorem dX11_heights_8 : decode cX11_heights 8 = .ok (.ifCond .eq 23, 3) := by decide +kernel
theorem dX11_heights_11 : decode cX11_heights 11 = .ok (.iload_n 2, 1) := by decide +kernel
theorem dX11_heights_12 : decode cX11_heights 12 = .ok (.iconst 0, 1) := by decide +kernel
theorem dX11_heights_13 : decode cX11_heights 13 = .ok (.bipush 50, 2) := by decide +kernel
theorem dX11_heights_15 : decode cX11_heights 15 = .ok (.invokestatic 109, 3) := by decide +kernel
theorem dX11_heights_18 : decode cX11_heights 18 = .ok (.ifCond .eq 13, 3) := by decide +kernel
theorem dX11_heights_21 : decode cX11_heights 21 = .ok (.iload_n 3, 1) := by decide +kernel
theorem dX11_heights_22 : decode cX11_heights 22 = .ok (.iconst 0, 1) := by decide +kernel
theorem dX11_heights_23 : decode cX11_heights 23 = .ok (.bipush 60, 2) := by decide +kernel
theorem dX11_heights_25 : decode cX11_heights 25 = .ok (.invokestatic 109, 3) := by decide +kernel
theorem dX11_heights_28 : decode cX11_heights 28 = .ok (.ifCond .ne 5, 3) := by decide +kernel
theorem dX11_heights_31 : decode cX11_heights 31 = .ok (.iconst 0, 1) := by decide +kernel
theorem dX11_heights_32 : decode cX11_heights 32 = .ok (.ireturn, 1) := by decide +kernel
theorem dX11_heights_33 : decode cX11_heights 33 = .ok (.aload_n 0, 1) := by decide +kernel
theorem dX11_heights_34 : decode cX11_heights 34 = .ok (.getfield 35, 3) := by decide +kernel
theorem dX11_heights_37 : decode cX11_heights 37 = .ok (.iload_n 1, 1) := by decide +kernel
theorem dX11_heights_38 : decode cX11_heights 38 = .ok (.putfield 113, 3) := by decide +kernel
theorem dX11_heights_41 : decode cX11_heights 41 = .ok (.aload_n 0, 1) := by decide +kernel
theorem dX11_heights_42 : decode cX11_heights 42 = .ok (.getfield 35, 3) := by decide +kernel
theorem dX11_heights_45 : decode cX11_heights 45 = .ok (.iload_n 2, 1) := by decide +kernel
theorem dX11_heights_46 : decode cX11_heights 46 = .ok (.putfield 116, 3) := by decide +kernel
theorem dX11_heights_49 : decode cX11_heights 49 = .ok (.aload_n 0, 1) := by decide +kernel
theorem dX11_heights_50 : decode cX11_heights 50 = .ok (.getfield 35, 3) := by decide +kernel
theorem dX11_heights_53 : decode cX11_heights 53 = .ok (.iload_n 3, 1) := by decide +kernel
theorem dX11_heights_54 : decode cX11_heights 54 = .ok (.putfield 119, 3) := by decide +kernel
theorem dX11_heights_57 : decode cX11_heights 57 = .ok (.iconst 1, 1) := by decide +kernel
theorem dX11_heights_58 : decode cX11_heights 58 = .ok (.ireturn, 1) := by decide +kernel
theorem dX11_seat_0 : decode cX11_seat 0 = .ok (.iload_n 1, 1) := by decide +kernel
theorem dX11_seat_1 : decode cX11_seat 1 = .ok (.iconst 0, 1) := by decide +kernel
theorem dX11_seat_2 : decode cX11_seat 2 = .ok (.bipush 7, 2) := by decide +kernel
theorem dX11_seat_4 : decode cX11_seat 4 = .ok (.invokestatic 109, 3) := by decide +kernel
theorem dX11_seat_7 : decode cX11_seat 7 = .ok (.ifCond .eq 11, 3) := by decide +kernel
theorem dX11_seat_10 : decode cX11_seat 10 = .ok (.iload_n 2, 1) := by decide +kernel
theorem dX11_seat_11 : decode cX11_seat 11 = .ok (.iload_n 3, 1) := by decide +kernel
theorem dX11_seat_12 : decode cX11_seat 12 = .ok (.invokestatic 122, 3) := by decide +kernel
theorem dX11_seat_15 : decode cX11_seat 15 = .ok (.ifCond .ne 5, 3) := by decide +kernel
theorem dX11_seat_18 : decode cX11_seat 18 = .ok (.iconst 0, 1) := by decide +kernel
theorem dX11_seat_19 : decode cX11_seat 19 = .ok (.ireturn, 1) := by decide +kernel
theorem dX11_seat_20 : decode cX11_seat 20 = .ok (.aload_n 0, 1) := by decide +kernel
theorem dX11_seat_21 : decode cX11_seat 21 = .ok (.getfield 35, 3) := by decide +kernel
theorem dX11_seat_24 : decode cX11_seat 24 = .ok (.getfield 126, 3) := by decide +kernel
theorem dX11_seat_27 : decode cX11_seat 27 = .ok (.iload_n 1, 1) := by decide +kernel
theorem dX11_seat_28 : decode cX11_seat 28 = .ok (.iconst 1, 1) := by decide +kernel
theorem dX11_seat_29 : decode cX11_seat 29 = .ok (.bastore, 1) := by decide +kernel
theorem dX11_seat_30 : decode cX11_seat 30 = .ok (.aload_n 0, 1) := by decide +kernel
theorem dX11_seat_31 : decode cX11_seat 31 = .ok (.getfield 35, 3) := by decide +kernel
theorem dX11_seat_34 : decode cX11_seat 34 = .ok (.getfield 130, 3) := by decide +kernel
theorem dX11_seat_37 : decode cX11_seat 37 = .ok (.iload_n 1, 1) := by decide +kernel
theorem dX11_seat_38 : decode cX11_seat 38 = .ok (.iload_n 2, 1) := by decide +kernel
theorem dX11_seat_39 : decode cX11_seat 39 = .ok (.iastore, 1) := by decide +kernel
theorem dX11_seat_40 : decode cX11_seat 40 = .ok (.aload_n 0, 1) := by decide +kernel
theorem dX11_seat_41 : decode cX11_seat 41 = .ok (.getfield 35, 3) := by decide +kernel
theorem dX11_seat_44 : decode cX11_seat 44 = .ok (.getfield 134, 3) := by decide +kernel
theorem dX11_seat_47 : decode cX11_seat 47 = .ok (.iload_n 1, 1) := by decide +kernel
theorem dX11_seat_48 : decode cX11_seat 48 = .ok (.iload_n 3, 1) := by decide +kernel
theorem dX11_seat_49 : decode cX11_seat 49 = .ok (.iastore, 1) := by decide +kernel
theorem dX11_seat_50 : decode cX11_seat 50 = .ok (.iconst 1, 1) := by decide +kernel
theorem dX11_seat_51 : decode cX11_seat 51 = .ok (.ireturn, 1) := by decide +kernel
theorem dX11_wall_0 : decode cX11_wall 0 = .ok (.iload_n 1, 1) := by decide +kernel
theorem dX11_wall_1 : decode cX11_wall 1 = .ok (.iconst 0, 1) := by decide +kernel
theorem dX11_wall_2 : decode cX11_wall 2 = .ok (.bipush 11, 2) := by decide +kernel
theorem dX11_wall_4 : decode cX11_wall 4 = .ok (.invokestatic 109, 3) := by decide +kernel
theorem dX11_wall_7 : decode cX11_wall 7 = .ok (.ifCond .eq 15, 3) := by decide +kernel
theorem dX11_wall_10 : decode cX11_wall 10 = .ok (.iload_n 2, 1) := by decide +kernel
theorem dX11_wall_11 : decode cX11_wall 11 = .ok (.iload_n 3, 1) := by decide +kernel
theorem dX11_wall_12 : decode cX11_wall 12 = .ok (.iload 4, 2) := by decide +kernel
theorem dX11_wall_14 : decode cX11_wall 14 = .ok (.iload 5, 2) := by decide +kernel
theorem dX11_wall_16 : decode cX11_wall 16 = .ok (.invokestatic 81, 3) := by decide +kernel
theorem dX11_wall_19 : decode cX11_wall 19 = .ok (.ifCond .ne 5, 3) := by decide +kernel
theorem dX11_wall_22 : decode cX11_wall 22 = .ok (.iconst 0, 1) := by decide +kernel
theorem dX11_wall_23 : decode cX11_wall 23 = .ok (.ireturn, 1) := by decide +kernel
theorem dX11_wall_24 : decode cX11_wall 24 = .ok (.aload_n 0, 1) := by decide +kernel
theorem dX11_wall_25 : decode cX11_wall 25 = .ok (.getfield 35, 3) := by decide +kernel
theorem dX11_wall_28 : decode cX11_wall 28 = .ok (.getfield 137, 3) := by decide +kernel
theorem dX11_wall_31 : decode cX11_wall 31 = .ok (.iload_n 1, 1) := by decide +kernel
theorem dX11_wall_32 : decode cX11_wall 32 = .ok (.iconst 1, 1) := by decide +kernel
theorem dX11_wall_33 : decode cX11_wall 33 = .ok (.bastore, 1) := by decide +kernel
theorem dX11_wall_34 : decode cX11_wall 34 = .ok (.aload_n 0, 1) := by decide +kernel
theorem dX11_wall_35 : decode cX11_wall 35 = .ok (.getfield 35, 3) := by decide +kernel
theorem dX11_wall_38 : decode cX11_wall 38 = .ok (.getfield 140, 3) := by decide +kernel
theorem dX11_wall_41 : decode cX11_wall 41 = .ok (.iload_n 1, 1) := by decide +kernel
theorem dX11_wall_42 : decode cX11_wall 42 = .ok (.aaload, 1) := by decide +kernel
theorem dX11_wall_43 : decode cX11_wall 43 = .ok (.iconst 0, 1) := by decide +kernel
theorem dX11_wall_44 : decode cX11_wall 44 = .ok (.iload_n 2, 1) := by decide +kernel
theorem dX11_wall_45 : decode cX11_wall 45 = .ok (.iastore, 1) := by decide +kernel
theorem dX11_wall_46 : decode cX11_wall 46 = .ok (.aload_n 0, 1) := by decide +kernel
theorem dX11_wall_47 : decode cX11_wall 47 = .ok (.getfield 35, 3) := by decide +kernel
theorem dX11_wall_50 : decode cX11_wall 50 = .ok (.getfield 140, 3) := by decide +kernel
theorem dX11_wall_53 : decode cX11_wall 53 = .ok (.iload_n 1, 1) := by decide +kernel
theorem dX11_wall_54 : decode cX11_wall 54 = .ok (.aaload, 1) := by decide +kernel
theorem dX11_wall_55 : decode cX11_wall 55 = .ok (.iconst 1, 1) := by decide +kernel
theorem dX11_wall_56 : decode cX11_wall 56 = .ok (.iload_n 3, 1) := by decide +kernel
theorem dX11_wall_57 : decode cX11_wall 57 = .ok (.iastore, 1) := by decide +kernel
theorem dX11_wall_58 : decode cX11_wall 58 = .ok (.aload_n 0, 1) := by decide +kernel
theorem dX11_wall_59 : decode cX11_wall 59 = .ok (.getfield 35, 3) := by decide +kernel
theorem dX11_wall_62 : decode cX11_wall 62 = .ok (.getfield 140, 3) := by decide +kernel
theorem dX11_wall_65 : decode cX11_wall 65 = .ok (.iload_n 1, 1) := by decide +kernel
theorem dX11_wall_66 : decode cX11_wall 66 = .ok (.aaload, 1) := by decide +kernel
theorem dX11_wall_67 : decode cX11_wall 67 = .ok (.iconst 2, 1) := by decide +kernel
theorem dX11_wall_68 : decode cX11_wall 68 = .ok (.iload 4, 2) := by decide +kernel
theorem dX11_wall_70 : decode cX11_wall 70 = .ok (.iastore, 1) := by decide +kernel
theorem dX11_wall_71 : decode cX11_wall 71 = .ok (.aload_n 0, 1) := by decide +kernel
theorem dX11_wall_72 : decode cX11_wall 72 = .ok (.getfield 35, 3) := by decide +kernel
theorem dX11_wall_75 : decode cX11_wall 75 = .ok (.getfield 140, 3) := by decide +kernel
theorem dX11_wall_78 : decode cX11_wall 78 = .ok (.iload_n 1, 1) := by decide +kernel
theorem dX11_wall_79 : decode cX11_wall 79 = .ok (.aaload, 1) := by decide +kernel
theorem dX11_wall_80 : decode cX11_wall 80 = .ok (.iconst 3, 1) := by decide +kernel
theorem dX11_wall_81 : decode cX11_wall 81 = .ok (.iload 5, 2) := by decide +kernel
theorem dX11_wall_83 : decode cX11_wall 83 = .ok (.iastore, 1) := by decide +kernel
theorem dX11_wall_84 : decode cX11_wall 84 = .ok (.aload_n 0, 1) := by decide +kernel
theorem dX11_wall_85 : decode cX11_wall 85 = .ok (.getfield 35, 3) := by decide +kernel
theorem dX11_wall_88 : decode cX11_wall 88 = .ok (.getfield 144, 3) := by decide +kernel
theorem dX11_wall_91 : decode cX11_wall 91 = .ok (.iload_n 1, 1) := by decide +kernel
theorem dX11_wall_92 : decode cX11_wall 92 = .ok (.iload 6, 2) := by decide +kernel
theorem dX11_wall_94 : decode cX11_wall 94 = .ok (.bastore, 1) := by decide +kernel
theorem dX11_wall_95 : decode cX11_wall 95 = .ok (.iconst 1, 1) := by decide +kernel
theorem dX11_wall_96 : decode cX11_wall 96 = .ok (.ireturn, 1) := by decide +kernel
theorem dX11_thing_0 : decode cX11_thing 0 = .ok (.iload_n 1, 1) := by decide +kernel
theorem dX11_thing_1 : decode cX11_thing 1 = .ok (.iconst 0, 1) := by decide +kernel
theorem dX11_thing_2 : decode cX11_thing 2 = .ok (.bipush 7, 2) := by decide +kernel
theorem dX11_thing_4 : decode cX11_thing 4 = .ok (.invokestatic 109, 3) := by decide +kernel
theorem dX11_thing_7 : decode cX11_thing 7 = .ok (.ifCond .eq 21, 3) := by decide +kernel
theorem dX11_thing_10 : decode cX11_thing 10 = .ok (.iload_n 2, 1) := by decide +kernel
theorem dX11_thing_11 : decode cX11_thing 11 = .ok (.iload 4, 2) := by decide +kernel
theorem dX11_thing_13 : decode cX11_thing 13 = .ok (.invokestatic 122, 3) := by decide +kernel
theorem dX11_thing_16 : decode cX11_thing 16 = .ok (.ifCond .eq 12, 3) := by decide +kernel
theorem dX11_thing_19 : decode cX11_thing 19 = .ok (.iload_n 3, 1) := by decide +kernel
theorem dX11_thing_20 : decode cX11_thing 20 = .ok (.iload 5, 2) := by decide +kernel
theorem dX11_thing_22 : decode cX11_thing 22 = .ok (.invokestatic 122, 3) := by decide +kernel
theorem dX11_thing_25 : decode cX11_thing 25 = .ok (.ifCond .ne 5, 3) := by decide +kernel
theorem dX11_thing_28 : decode cX11_thing 28 = .ok (.iconst 0, 1) := by decide +kernel
theorem dX11_thing_29 : decode cX11_thing 29 = .ok (.ireturn, 1) := by decide +kernel
theorem dX11_thing_30 : decode cX11_thing 30 = .ok (.iload_n 2, 1) := by decide +kernel
theorem dX11_thing_31 : decode cX11_thing 31 = .ok (.iload_n 3, 1) := by decide +kernel
theorem dX11_thing_32 : decode cX11_thing 32 = .ok (.if_icmp .ge 10, 3) := by decide +kernel
theorem dX11_thing_35 : decode cX11_thing 35 = .ok (.iload 4, 2) := by decide +kernel
theorem dX11_thing_37 : decode cX11_thing 37 = .ok (.iload 5, 2) := by decide +kernel
theorem dX11_thing_39 : decode cX11_thing 39 = .ok (.if_icmp .lt 5, 3) := by decide +kernel
theorem dX11_thing_42 : decode cX11_thing 42 = .ok (.iconst 0, 1) := by decide +kernel
theorem dX11_thing_43 : decode cX11_thing 43 = .ok (.ireturn, 1) := by decide +kernel
theorem dX11_thing_44 : decode cX11_thing 44 = .ok (.aload_n 0, 1) := by decide +kernel
theorem dX11_thing_45 : decode cX11_thing 45 = .ok (.getfield 35, 3) := by decide +kernel
theorem dX11_thing_48 : decode cX11_thing 48 = .ok (.getfield 147, 3) := by decide +kernel
theorem dX11_thing_51 : decode cX11_thing 51 = .ok (.iload_n 1, 1) := by decide +kernel
theorem dX11_thing_52 : decode cX11_thing 52 = .ok (.iconst 1, 1) := by decide +kernel
theorem dX11_thing_53 : decode cX11_thing 53 = .ok (.bastore, 1) := by decide +kernel
theorem dX11_thing_54 : decode cX11_thing 54 = .ok (.aload_n 0, 1) := by decide +kernel
theorem dX11_thing_55 : decode cX11_thing 55 = .ok (.getfield 35, 3) := by decide +kernel
theorem dX11_thing_58 : decode cX11_thing 58 = .ok (.getfield 150, 3) := by decide +kernel
theorem dX11_thing_61 : decode cX11_thing 61 = .ok (.iload_n 1, 1) := by decide +kernel
theorem dX11_thing_62 : decode cX11_thing 62 = .ok (.aaload, 1) := by decide +kernel
theorem dX11_thing_63 : decode cX11_thing 63 = .ok (.iconst 0, 1) := by decide +kernel
theorem dX11_thing_64 : decode cX11_thing 64 = .ok (.iload_n 2, 1) := by decide +kernel
theorem dX11_thing_65 : decode cX11_thing 65 = .ok (.iastore, 1) := by decide +kernel
theorem dX11_thing_66 : decode cX11_thing 66 = .ok (.aload_n 0, 1) := by decide +kernel
theorem dX11_thing_67 : decode cX11_thing 67 = .ok (.getfield 35, 3) := by decide +kernel
theorem dX11_thing_70 : decode cX11_thing 70 = .ok (.getfield 150, 3) := by decide +kernel
theorem dX11_thing_73 : decode cX11_thing 73 = .ok (.iload_n 1, 1) := by decide +kernel
theorem dX11_thing_74 : decode cX11_thing 74 = .ok (.aaload, 1) := by decide +kernel
theorem dX11_thing_75 : decode cX11_thing 75 = .ok (.iconst 1, 1) := by decide +kernel
theorem dX11_thing_76 : decode cX11_thing 76 = .ok (.iload_n 3, 1) := by decide +kernel
theorem dX11_thing_77 : decode cX11_thing 77 = .ok (.iastore, 1) := by decide +kernel
theorem dX11_thing_78 : decode cX11_thing 78 = .ok (.aload_n 0, 1) := by decide +kernel
theorem dX11_thing_79 : decode cX11_thing 79 = .ok (.getfield 35, 3) := by decide +kernel
theorem dX11_thing_82 : decode cX11_thing 82 = .ok (.getfield 150, 3) := by decide +kernel
theorem dX11_thing_85 : decode cX11_thing 85 = .ok (.iload_n 1, 1) := by decide +kernel
theorem dX11_thing_86 : decode cX11_thing 86 = .ok (.aaload, 1) := by decide +kernel
theorem dX11_thing_87 : decode cX11_thing 87 = .ok (.iconst 2, 1) := by decide +kernel
theorem dX11_thing_88 : decode cX11_thing 88 = .ok (.iload 4, 2) := by decide +kernel
theorem dX11_thing_90 : decode cX11_thing 90 = .ok (.iastore, 1) := by decide +kernel
theorem dX11_thing_91 : decode cX11_thing 91 = .ok (.aload_n 0, 1) := by decide +kernel
theorem dX11_thing_92 : decode cX11_thing 92 = .ok (.getfield 35, 3) := by decide +kernel
theorem dX11_thing_95 : decode cX11_thing 95 = .ok (.getfield 150, 3) := by decide +kernel
theorem dX11_thing_98 : decode cX11_thing 98 = .ok (.iload_n 1, 1) := by decide +kernel
theorem dX11_thing_99 : decode cX11_thing 99 = .ok (.aaload, 1) := by decide +kernel
theorem dX11_thing_100 : decode cX11_thing 100 = .ok (.iconst 3, 1) := by decide +kernel
theorem dX11_thing_101 : decode cX11_thing 101 = .ok (.iload 5, 2) := by decide +kernel
theorem dX11_thing_103 : decode cX11_thing 103 = .ok (.iastore, 1) := by decide +kernel
theorem dX11_thing_104 : decode cX11_thing 104 = .ok (.iconst 1, 1) := by decide +kernel
theorem dX11_thing_105 : decode cX11_thing 105 = .ok (.ireturn, 1) := by decide +kernel
theorem dX11_gone_0 : decode cX11_gone 0 = .ok (.iload_n 1, 1) := by decide +kernel
theorem dX11_gone_1 : decode cX11_gone 1 = .ok (.tableswitch 63 0 2 #[27, 39, 51], 27) := by decide +kernel
theorem dX11_gone_28 : decode cX11_gone 28 = .ok (.aload_n 0, 1) := by decide +kernel
theorem dX11_gone_29 : decode cX11_gone 29 = .ok (.getfield 35, 3) := by decide +kernel
theorem dX11_gone_32 : decode cX11_gone 32 = .ok (.getfield 126, 3) := by decide +kernel
theorem dX11_gone_35 : decode cX11_gone 35 = .ok (.iload_n 2, 1) := by decide +kernel
theorem dX11_gone_36 : decode cX11_gone 36 = .ok (.invokestatic 153, 3) := by decide +kernel
theorem dX11_gone_39 : decode cX11_gone 39 = .ok (.ireturn, 1) := by decide +kernel
theorem dX11_gone_40 : decode cX11_gone 40 = .ok (.aload_n 0, 1) := by decide +kernel
theorem dX11_gone_41 : decode cX11_gone 41 = .ok (.getfield 35, 3) := by decide +kernel
theorem dX11_gone_44 : decode cX11_gone 44 = .ok (.getfield 137, 3) := by decide +kernel
theorem dX11_gone_47 : decode cX11_gone 47 = .ok (.iload_n 2, 1) := by decide +kernel
theorem dX11_gone_48 : decode cX11_gone 48 = .ok (.invokestatic 153, 3) := by decide +kernel
theorem dX11_gone_51 : decode cX11_gone 51 = .ok (.ireturn, 1) := by decide +kernel
theorem dX11_gone_52 : decode cX11_gone 52 = .ok (.aload_n 0, 1) := by decide +kernel
theorem dX11_gone_53 : decode cX11_gone 53 = .ok (.getfield 35, 3) := by decide +kernel
theorem dX11_gone_56 : decode cX11_gone 56 = .ok (.getfield 147, 3) := by decide +kernel
theorem dX11_gone_59 : decode cX11_gone 59 = .ok (.iload_n 2, 1) := by decide +kernel
theorem dX11_gone_60 : decode cX11_gone 60 = .ok (.invokestatic 153, 3) := by decide +kernel
theorem dX11_gone_63 : decode cX11_gone 63 = .ok (.ireturn, 1) := by decide +kernel
theorem dX11_gone_64 : decode cX11_gone 64 = .ok (.iconst 0, 1) := by decide +kernel
theorem dX11_gone_65 : decode cX11_gone 65 = .ok (.ireturn, 1) := by decide +kernel
theorem dX11_of_0 : decode cX11_of 0 = .ok (.iload_n 1, 1) := by decide +kernel
theorem dX11_of_1 : decode cX11_of 1 = .ok (.iload_n 2, 1) := by decide +kernel
theorem dX11_of_2 : decode cX11_of 2 = .ok (.invokestatic 157, 3) := by decide +kernel
theorem dX11_of_5 : decode cX11_of 5 = .ok (.ifCond .ne 7, 3) := by decide +kernel
theorem dX11_of_8 : decode cX11_of 8 = .ok (.ldc2_w 160, 3) := by decide +kernel
theorem dX11_of_11 : decode cX11_of 11 = .ok (.lreturn, 1) := by decide +kernel
theorem dX11_of_12 : decode cX11_of 12 = .ok (.aload_n 0, 1) := by decide +kernel
theorem dX11_of_13 : decode cX11_of 13 = .ok (.getfield 44, 3) := by decide +kernel
theorem dX11_of_16 : decode cX11_of 16 = .ok (.invokevirtual 162, 3) := by decide +kernel
theorem dX11_of_19 : decode cX11_of 19 = .ok (.iload_n 3, 1) := by decide +kernel
theorem dX11_of_20 : decode cX11_of 20 = .ok (.tableswitch 127 0 4 #[36, 63, 90, 101, 114], 36) := by decide +kernel
theorem dX11_of_56 : decode cX11_of 56 = .ok (.aload_n 0, 1) := by decide +kernel
theorem dX11_of_57 : decode cX11_of 57 = .ok (.getfield 44, 3) := by decide +kernel
theorem dX11_of_60 : decode cX11_of 60 = .ok (.getfield 165, 3) := by decide +kernel
theorem dX11_of_63 : decode cX11_of 63 = .ok (.ldc2_w 169, 3) := by decide +kernel
theorem dX11_of_66 : decode cX11_of 66 = .ok (.iload_n 1, 1) := by decide +kernel
theorem dX11_of_67 : decode cX11_of 67 = .ok (.i2l, 1) := by decide +kernel
theorem dX11_of_68 : decode cX11_of 68 = .ok (.lmul, 1) := by decide +kernel
theorem dX11_of_69 : decode cX11_of 69 = .ok (.ldc2_w 169, 3) := by decide +kernel
theorem dX11_of_72 : decode cX11_of 72 = .ok (.iload_n 2, 1) := by decide +kernel
theorem dX11_of_73 : decode cX11_of 73 = .ok (.i2l, 1) := by decide +kernel
theorem dX11_of_74 : decode cX11_of 74 = .ok (.lmul, 1) := by decide +kernel
theorem dX11_of_75 : decode cX11_of 75 = .ok (.invokevirtual 171, 3) := by decide +kernel
theorem dX11_of_78 : decode cX11_of 78 = .ok (.ldc2_w 169, 3) := by decide +kernel
theorem dX11_of_81 : decode cX11_of 81 = .ok (.ldiv, 1) := by decide +kernel
theorem dX11_of_82 : decode cX11_of 82 = .ok (.lreturn, 1) := by decide +kernel
theorem dX11_of_83 : decode cX11_of 83 = .ok (.aload_n 0, 1) := by decide +kernel
theorem dX11_of_84 : decode cX11_of 84 = .ok (.getfield 44, 3) := by decide +kernel
theorem dX11_of_87 : decode cX11_of 87 = .ok (.getfield 165, 3) := by decide +kernel
theorem dX11_of_90 : decode cX11_of 90 = .ok (.ldc2_w 169, 3) := by decide +kernel
theorem dX11_of_93 : decode cX11_of 93 = .ok (.iload_n 1, 1) := by decide +kernel
theorem dX11_of_94 : decode cX11_of 94 = .ok (.i2l, 1) := by decide +kernel
theorem dX11_of_95 : decode cX11_of 95 = .ok (.lmul, 1) := by decide +kernel
theorem dX11_of_96 : decode cX11_of 96 = .ok (.ldc2_w 169, 3) := by decide +kernel
theorem dX11_of_99 : decode cX11_of 99 = .ok (.iload_n 2, 1) := by decide +kernel
theorem dX11_of_100 : decode cX11_of 100 = .ok (.i2l, 1) := by decide +kernel
theorem dX11_of_101 : decode cX11_of 101 = .ok (.lmul, 1) := by decide +kernel
theorem dX11_of_102 : decode cX11_of 102 = .ok (.invokevirtual 177, 3) := by decide +kernel
theorem dX11_of_105 : decode cX11_of 105 = .ok (.ldc2_w 169, 3) := by decide +kernel
theorem dX11_of_108 : decode cX11_of 108 = .ok (.ldiv, 1) := by decide +kernel
theorem dX11_of_109 : decode cX11_of 109 = .ok (.lreturn, 1) := by decide +kernel
theorem dX11_of_110 : decode cX11_of 110 = .ok (.aload_n 0, 1) := by decide +kernel
theorem dX11_of_111 : decode cX11_of 111 = .ok (.getfield 44, 3) := by decide +kernel
theorem dX11_of_114 : decode cX11_of 114 = .ok (.getfield 165, 3) := by decide +kernel
theorem dX11_of_117 : decode cX11_of 117 = .ok (.getfield 180, 3) := by decide +kernel
theorem dX11_of_120 : decode cX11_of 120 = .ok (.lreturn, 1) := by decide +kernel
theorem dX11_of_121 : decode cX11_of 121 = .ok (.aload_n 0, 1) := by decide +kernel
theorem dX11_of_122 : decode cX11_of 122 = .ok (.getfield 44, 3) := by decide +kernel
theorem dX11_of_125 : decode cX11_of 125 = .ok (.getfield 165, 3) := by decide +kernel
theorem dX11_of_128 : decode cX11_of 128 = .ok (.iload_n 1, 1) := by decide +kernel
theorem dX11_of_129 : decode cX11_of 129 = .ok (.iload_n 2, 1) := by decide +kernel
theorem dX11_of_130 : decode cX11_of 130 = .ok (.invokevirtual 184, 3) := by decide +kernel
theorem dX11_of_133 : decode cX11_of 133 = .ok (.lreturn, 1) := by decide +kernel
theorem dX11_of_134 : decode cX11_of 134 = .ok (.aload_n 0, 1) := by decide +kernel
theorem dX11_of_135 : decode cX11_of 135 = .ok (.getfield 44, 3) := by decide +kernel
theorem dX11_of_138 : decode cX11_of 138 = .ok (.getfield 165, 3) := by decide +kernel
theorem dX11_of_141 : decode cX11_of 141 = .ok (.iload_n 1, 1) := by decide +kernel
theorem dX11_of_142 : decode cX11_of 142 = .ok (.iload_n 2, 1) := by decide +kernel
theorem dX11_of_143 : decode cX11_of 143 = .ok (.invokevirtual 188, 3) := by decide +kernel
theorem dX11_of_146 : decode cX11_of 146 = .ok (.lreturn, 1) := by decide +kernel
theorem dX11_of_147 : decode cX11_of 147 = .ok (.ldc2_w 160, 3) := by decide +kernel
theorem dX11_of_150 : decode cX11_of 150 = .ok (.lreturn, 1) := by decide +kernel
theorem dX11_sees_0 : decode cX11_sees 0 = .ok (.aload_n 0, 1) := by decide +kernel
theorem dX11_sees_1 : decode cX11_sees 1 = .ok (.getfield 35, 3) := by decide +kernel
theorem dX11_sees_4 : decode cX11_sees 4 = .ok (.iload_n 1, 1) := by decide +kernel
theorem dX11_sees_5 : decode cX11_sees 5 = .ok (.invokevirtual 191, 3) := by decide +kernel
theorem dX11_sees_8 : decode cX11_sees 8 = .ok (.ifCond .eq 11, 3) := by decide +kernel
theorem dX11_sees_11 : decode cX11_sees 11 = .ok (.iload_n 2, 1) := by decide +kernel
theorem dX11_sees_12 : decode cX11_sees 12 = .ok (.iload_n 3, 1) := by decide +kernel
theorem dX11_sees_13 : decode cX11_sees 13 = .ok (.invokestatic 157, 3) := by decide +kernel
theorem dX11_sees_16 : decode cX11_sees 16 = .ok (.ifCond .ne 5, 3) := by decide +kernel
theorem dX11_sees_19 : decode cX11_sees 19 = .ok (.iconst (-1), 1) := by decide +kernel
theorem dX11_sees_20 : decode cX11_sees 20 = .ok (.ireturn, 1) := by decide +kernel
theorem dX11_sees_21 : decode cX11_sees 21 = .ok (.aload_n 0, 1) := by decide +kernel
theorem dX11_sees_22 : decode cX11_sees 22 = .ok (.getfield 44, 3) := by decide +kernel
theorem dX11_sees_25 : decode cX11_sees 25 = .ok (.invokevirtual 162, 3) := by decide +kernel
theorem dX11_sees_28 : decode cX11_sees 28 = .ok (.aload_n 0, 1) := by decide +kernel
theorem dX11_sees_29 : decode cX11_sees 29 = .ok (.getfield 44, 3) := by decide +kernel
theorem dX11_sees_32 : decode cX11_sees 32 = .ok (.iload_n 1, 1) := by decide +kernel
theorem dX11_sees_33 : decode cX11_sees 33 = .ok (.ldc2_w 169, 3) := by decide +kernel
theorem dX11_sees_36 : decode cX11_sees 36 = .ok (.iload_n 2, 1) := by decide +kernel
theorem dX11_sees_37 : decode cX11_sees 37 = .ok (.i2l, 1) := by decide +kernel
theorem dX11_sees_38 : decode cX11_sees 38 = .ok (.lmul, 1) := by decide +kernel
theorem dX11_sees_39 : decode cX11_sees 39 = .ok (.ldc2_w 169, 3) := by decide +kernel
theorem dX11_sees_42 : decode cX11_sees 42 = .ok (.iload_n 3, 1) := by decide +kernel
theorem dX11_sees_43 : decode cX11_sees 43 = .ok (.i2l, 1) := by decide +kernel
theorem dX11_sees_44 : decode cX11_sees 44 = .ok (.lmul, 1) := by decide +kernel
theorem dX11_sees_45 : decode cX11_sees 45 = .ok (.invokevirtual 195, 3) := by decide +kernel
theorem dX11_sees_48 : decode cX11_sees 48 = .ok (.invokestatic 199, 3) := by decide +kernel
theorem dX11_sees_51 : decode cX11_sees 51 = .ok (.ireturn, 1) := by decide +kernel
theorem dX11_where_0 : decode cX11_where 0 = .ok (.aload_n 0, 1) := by decide +kernel
theorem dX11_where_1 : decode cX11_where 1 = .ok (.iload_n 1, 1) := by decide +kernel
theorem dX11_where_2 : decode cX11_where 2 = .ok (.iload_n 2, 1) := by decide +kernel
theorem dX11_where_3 : decode cX11_where 3 = .ok (.iload_n 3, 1) := by decide +kernel
theorem dX11_where_4 : decode cX11_where 4 = .ok (.invokevirtual 203, 3) := by decide +kernel
theorem dX11_where_7 : decode cX11_where 7 = .ok (.ifCond .ne 5, 3) := by decide +kernel
theorem dX11_where_10 : decode cX11_where 10 = .ok (.iconst (-1), 1) := by decide +kernel
theorem dX11_where_11 : decode cX11_where 11 = .ok (.ireturn, 1) := by decide +kernel
theorem dX11_where_12 : decode cX11_where 12 = .ok (.aload_n 0, 1) := by decide +kernel
theorem dX11_where_13 : decode cX11_where 13 = .ok (.getfield 44, 3) := by decide +kernel
theorem dX11_where_16 : decode cX11_where 16 = .ok (.getfield 165, 3) := by decide +kernel
theorem dX11_where_19 : decode cX11_where 19 = .ok (.invokevirtual 206, 3) := by decide +kernel
theorem dX11_where_22 : decode cX11_where 22 = .ok (.ireturn, 1) := by decide +kernel
theorem dX11_blocks_0 : decode cX11_blocks 0 = .ok (.iload 4, 2) := by decide +kernel
theorem dX11_blocks_2 : decode cX11_blocks 2 = .ok (.iconst 0, 1) := by decide +kernel
theorem dX11_blocks_3 : decode cX11_blocks 3 = .ok (.iconst 1, 1) := by decide +kernel
theorem dX11_blocks_4 : decode cX11_blocks 4 = .ok (.invokestatic 109, 3) := by decide +kernel
theorem dX11_blocks_7 : decode cX11_blocks 7 = .ok (.ifCond .eq 13, 3) := by decide +kernel
theorem dX11_blocks_10 : decode cX11_blocks 10 = .ok (.aload_n 0, 1) := by decide +kernel
theorem dX11_blocks_11 : decode cX11_blocks 11 = .ok (.iload_n 1, 1) := by decide +kernel
theorem dX11_blocks_12 : decode cX11_blocks 12 = .ok (.iload_n 2, 1) := by decide +kernel
theorem dX11_blocks_13 : decode cX11_blocks 13 = .ok (.iload_n 3, 1) := by decide +kernel
theorem dX11_blocks_14 : decode cX11_blocks 14 = .ok (.invokevirtual 203, 3) := by decide +kernel
theorem dX11_blocks_17 : decode cX11_blocks 17 = .ok (.ifCond .ne 5, 3) := by decide +kernel
theorem dX11_blocks_20 : decode cX11_blocks 20 = .ok (.iconst (-1), 1) := by decide +kernel
theorem dX11_blocks_21 : decode cX11_blocks 21 = .ok (.ireturn, 1) := by decide +kernel
theorem dX11_blocks_22 : decode cX11_blocks 22 = .ok (.iload 4, 2) := by decide +kernel
theorem dX11_blocks_24 : decode cX11_blocks 24 = .ok (.ifCond .ne 42, 3) := by decide +kernel
theorem dX11_blocks_27 : decode cX11_blocks 27 = .ok (.aload_n 0, 1) := by decide +kernel
theorem dX11_blocks_28 : decode cX11_blocks 28 = .ok (.getfield 44, 3) := by decide +kernel
theorem dX11_blocks_31 : decode cX11_blocks 31 = .ok (.getfield 165, 3) := by decide +kernel
theorem dX11_blocks_34 : decode cX11_blocks 34 = .ok (.ldc2_w 169, 3) := by decide +kernel
theorem dX11_blocks_37 : decode cX11_blocks 37 = .ok (.aload_n 0, 1) := by decide +kernel
theorem dX11_blocks_38 : decode cX11_blocks 38 = .ok (.getfield 35, 3) := by decide +kernel
theorem dX11_blocks_41 : decode cX11_blocks 41 = .ok (.getfield 130, 3) := by decide +kernel
theorem dX11_blocks_44 : decode cX11_blocks 44 = .ok (.iload_n 1, 1) := by decide +kernel
theorem dX11_blocks_45 : decode cX11_blocks 45 = .ok (.iaload, 1) := by decide +kernel
theorem dX11_blocks_46 : decode cX11_blocks 46 = .ok (.i2l, 1) := by decide +kernel
theorem dX11_blocks_47 : decode cX11_blocks 47 = .ok (.lmul, 1) := by decide +kernel
theorem dX11_blocks_48 : decode cX11_blocks 48 = .ok (.ldc2_w 169, 3) := by decide +kernel
theorem dX11_blocks_51 : decode cX11_blocks 51 = .ok (.aload_n 0, 1) := by decide +kernel
theorem dX11_blocks_52 : decode cX11_blocks 52 = .ok (.getfield 35, 3) := by decide +kernel
theorem dX11_blocks_55 : decode cX11_blocks 55 = .ok (.getfield 134, 3) := by decide +kernel
theorem dX11_blocks_58 : decode cX11_blocks 58 = .ok (.iload_n 1, 1) := by decide +kernel
theorem dX11_blocks_59 : decode cX11_blocks 59 = .ok (.iaload, 1) := by decide +kernel
theorem dX11_blocks_60 : decode cX11_blocks 60 = .ok (.i2l, 1) := by decide +kernel
theorem dX11_blocks_61 : decode cX11_blocks 61 = .ok (.lmul, 1) := by decide +kernel
theorem dX11_blocks_62 : decode cX11_blocks 62 = .ok (.invokevirtual 210, 3) := by decide +kernel
theorem dX11_blocks_65 : decode cX11_blocks 65 = .ok (.ireturn, 1) := by decide +kernel
theorem dX11_blocks_66 : decode cX11_blocks 66 = .ok (.aload_n 0, 1) := by decide +kernel
theorem dX11_blocks_67 : decode cX11_blocks 67 = .ok (.getfield 44, 3) := by decide +kernel
theorem dX11_blocks_70 : decode cX11_blocks 70 = .ok (.getfield 165, 3) := by decide +kernel
theorem dX11_blocks_73 : decode cX11_blocks 73 = .ok (.ldc2_w 169, 3) := by decide +kernel
theorem dX11_blocks_76 : decode cX11_blocks 76 = .ok (.iload_n 2, 1) := by decide +kernel
theorem dX11_blocks_77 : decode cX11_blocks 77 = .ok (.i2l, 1) := by decide +kernel
theorem dX11_blocks_78 : decode cX11_blocks 78 = .ok (.lmul, 1) := by decide +kernel
theorem dX11_blocks_79 : decode cX11_blocks 79 = .ok (.ldc2_w 169, 3) := by decide +kernel
theorem dX11_blocks_82 : decode cX11_blocks 82 = .ok (.iload_n 3, 1) := by decide +kernel
theorem dX11_blocks_83 : decode cX11_blocks 83 = .ok (.i2l, 1) := by decide +kernel
theorem dX11_blocks_84 : decode cX11_blocks 84 = .ok (.lmul, 1) := by decide +kernel
theorem dX11_blocks_85 : decode cX11_blocks 85 = .ok (.invokevirtual 210, 3) := by decide +kernel
theorem dX11_blocks_88 : decode cX11_blocks 88 = .ok (.ireturn, 1) := by decide +kernel
theorem dX11_shows_0 : decode cX11_shows 0 = .ok (.aload_n 0, 1) := by decide +kernel
theorem dX11_shows_1 : decode cX11_shows 1 = .ok (.getfield 35, 3) := by decide +kernel
theorem dX11_shows_4 : decode cX11_shows 4 = .ok (.iload_n 1, 1) := by decide +kernel
theorem dX11_shows_5 : decode cX11_shows 5 = .ok (.invokevirtual 214, 3) := by decide +kernel
theorem dX11_shows_8 : decode cX11_shows 8 = .ok (.ifCond .eq 14, 3) := by decide +kernel
theorem dX11_shows_11 : decode cX11_shows 11 = .ok (.aload_n 0, 1) := by decide +kernel
theorem dX11_shows_12 : decode cX11_shows 12 = .ok (.getfield 35, 3) := by decide +kernel
theorem dX11_shows_15 : decode cX11_shows 15 = .ok (.iload_n 2, 1) := by decide +kernel
theorem dX11_shows_16 : decode cX11_shows 16 = .ok (.invokevirtual 191, 3) := by decide +kernel
theorem dX11_shows_19 : decode cX11_shows 19 = .ok (.ifCond .ne 5, 3) := by decide +kernel
theorem dX11_shows_22 : decode cX11_shows 22 = .ok (.iconst (-1), 1) := by decide +kernel
theorem dX11_shows_23 : decode cX11_shows 23 = .ok (.ireturn, 1) := by decide +kernel
theorem dX11_shows_24 : decode cX11_shows 24 = .ok (.aload_n 0, 1) := by decide +kernel
theorem dX11_shows_25 : decode cX11_shows 25 = .ok (.getfield 44, 3) := by decide +kernel
theorem dX11_shows_28 : decode cX11_shows 28 = .ok (.invokevirtual 162, 3) := by decide +kernel
theorem dX11_shows_31 : decode cX11_shows 31 = .ok (.aload_n 0, 1) := by decide +kernel
theorem dX11_shows_32 : decode cX11_shows 32 = .ok (.getfield 44, 3) := by decide +kernel
theorem dX11_shows_35 : decode cX11_shows 35 = .ok (.iload_n 1, 1) := by decide +kernel
theorem dX11_shows_36 : decode cX11_shows 36 = .ok (.iload_n 2, 1) := by decide +kernel
theorem dX11_shows_37 : decode cX11_shows 37 = .ok (.invokevirtual 217, 3) := by decide +kernel
theorem dX11_shows_40 : decode cX11_shows 40 = .ok (.invokestatic 199, 3) := by decide +kernel
theorem dX11_shows_43 : decode cX11_shows 43 = .ok (.ireturn, 1) := by decide +kernel
theorem dX11_black_0 : decode cX11_black 0 = .ok (.aload_n 0, 1) := by decide +kernel
theorem dX11_black_1 : decode cX11_black 1 = .ok (.getfield 44, 3) := by decide +kernel
theorem dX11_black_4 : decode cX11_black 4 = .ok (.invokevirtual 162, 3) := by decide +kernel
theorem dX11_black_7 : decode cX11_black 7 = .ok (.iconst 0, 1) := by decide +kernel
theorem dX11_black_8 : decode cX11_black 8 = .ok (.istore_n 1, 1) := by decide +kernel
theorem dX11_black_9 : decode cX11_black 9 = .ok (.iconst 0, 1) := by decide +kernel
theorem dX11_black_10 : decode cX11_black 10 = .ok (.istore_n 2, 1) := by decide +kernel
theorem dX11_black_11 : decode cX11_black 11 = .ok (.iload_n 2, 1) := by decide +kernel
theorem dX11_black_12 : decode cX11_black 12 = .ok (.bipush 12, 2) := by decide +kernel
theorem dX11_black_14 : decode cX11_black 14 = .ok (.if_icmp .ge 38, 3) := by decide +kernel
theorem dX11_black_17 : decode cX11_black 17 = .ok (.aload_n 0, 1) := by decide +kernel
theorem dX11_black_18 : decode cX11_black 18 = .ok (.getfield 35, 3) := by decide +kernel
theorem dX11_black_21 : decode cX11_black 21 = .ok (.getfield 137, 3) := by decide +kernel
theorem dX11_black_24 : decode cX11_black 24 = .ok (.iload_n 2, 1) := by decide +kernel
theorem dX11_black_25 : decode cX11_black 25 = .ok (.baload, 1) := by decide +kernel
theorem dX11_black_26 : decode cX11_black 26 = .ok (.ifCond .eq 20, 3) := by decide +kernel
theorem dX11_black_29 : decode cX11_black 29 = .ok (.aload_n 0, 1) := by decide +kernel
theorem dX11_black_30 : decode cX11_black 30 = .ok (.getfield 44, 3) := by decide +kernel
theorem dX11_black_33 : decode cX11_black 33 = .ok (.iload_n 2, 1) := by decide +kernel
theorem dX11_black_34 : decode cX11_black 34 = .ok (.invokevirtual 220, 3) := by decide +kernel
theorem dX11_black_37 : decode cX11_black 37 = .ok (.ifCond .eq 9, 3) := by decide +kernel
theorem dX11_black_40 : decode cX11_black 40 = .ok (.iload_n 1, 1) := by decide +kernel
theorem dX11_black_41 : decode cX11_black 41 = .ok (.iconst 1, 1) := by decide +kernel
theorem dX11_black_42 : decode cX11_black 42 = .ok (.iload_n 2, 1) := by decide +kernel
theorem dX11_black_43 : decode cX11_black 43 = .ok (.ishl, 1) := by decide +kernel
theorem dX11_black_44 : decode cX11_black 44 = .ok (.ior, 1) := by decide +kernel
theorem dX11_black_45 : decode cX11_black 45 = .ok (.istore_n 1, 1) := by decide +kernel
theorem dX11_black_46 : decode cX11_black 46 = .ok (.iinc 2 1, 3) := by decide +kernel
theorem dX11_black_49 : decode cX11_black 49 = .ok (.goto (-38), 3) := by decide +kernel
theorem dX11_black_52 : decode cX11_black 52 = .ok (.iload_n 1, 1) := by decide +kernel
theorem dX11_black_53 : decode cX11_black 53 = .ok (.ireturn, 1) := by decide +kernel
theorem dX11_walk_0 : decode cX11_walk 0 = .ok (.aload_n 0, 1) := by decide +kernel
theorem dX11_walk_1 : decode cX11_walk 1 = .ok (.getfield 21, 3) := by decide +kernel
theorem dX11_walk_4 : decode cX11_walk 4 = .ok (.invokevirtual 223, 3) := by decide +kernel
theorem dX11_walk_7 : decode cX11_walk 7 = .ok (.aload_n 0, 1) := by decide +kernel
theorem dX11_walk_8 : decode cX11_walk 8 = .ok (.getfield 10, 3) := by decide +kernel
theorem dX11_walk_11 : decode cX11_walk 11 = .ok (.iconst 0, 1) := by decide +kernel
theorem dX11_walk_12 : decode cX11_walk 12 = .ok (.putfield 77, 3) := by decide +kernel
theorem dX11_walk_15 : decode cX11_walk 15 = .ok (.aload_n 0, 1) := by decide +kernel
theorem dX11_walk_16 : decode cX11_walk 16 = .ok (.getfield 10, 3) := by decide +kernel
theorem dX11_walk_19 : decode cX11_walk 19 = .ok (.getfield 226, 3) := by decide +kernel
theorem dX11_walk_22 : decode cX11_walk 22 = .ok (.ifCond .eq 5, 3) := by decide +kernel
theorem dX11_walk_25 : decode cX11_walk 25 = .ok (.iconst (-1), 1) := by decide +kernel
theorem dX11_walk_26 : decode cX11_walk 26 = .ok (.ireturn, 1) := by decide +kernel
theorem dX11_walk_27 : decode cX11_walk 27 = .ok (.aload_n 0, 1) := by decide +kernel
theorem dX11_walk_28 : decode cX11_walk 28 = .ok (.getfield 28, 3) := by decide +kernel
theorem dX11_walk_31 : decode cX11_walk 31 = .ok (.aload_n 0, 1) := by decide +kernel
theorem dX11_walk_32 : decode cX11_walk 32 = .ok (.getfield 21, 3) := by decide +kernel
theorem dX11_walk_35 : decode cX11_walk 35 = .ok (.getfield 229, 3) := by decide +kernel
theorem dX11_walk_38 : decode cX11_walk 38 = .ok (.invokevirtual 233, 3) := by decide +kernel
theorem dX11_walk_41 : decode cX11_walk 41 = .ok (.aload_n 0, 1) := by decide +kernel
theorem dX11_walk_42 : decode cX11_walk 42 = .ok (.getfield 28, 3) := by decide +kernel
theorem dX11_walk_45 : decode cX11_walk 45 = .ok (.getfield 237, 3) := by decide +kernel
theorem dX11_walk_48 : decode cX11_walk 48 = .ok (.ireturn, 1) := by decide +kernel
theorem dX11_fault_0 : decode cX11_fault 0 = .ok (.iload_n 1, 1) := by decide +kernel
theorem dX11_fault_1 : decode cX11_fault 1 = .ok (.ifCond .ne 11, 3) := by decide +kernel
theorem dX11_fault_4 : decode cX11_fault 4 = .ok (.aload_n 0, 1) := by decide +kernel
theorem dX11_fault_5 : decode cX11_fault 5 = .ok (.getfield 10, 3) := by decide +kernel
theorem dX11_fault_8 : decode cX11_fault 8 = .ok (.getfield 226, 3) := by decide +kernel
theorem dX11_fault_11 : decode cX11_fault 11 = .ok (.ireturn, 1) := by decide +kernel
theorem dX11_fault_12 : decode cX11_fault 12 = .ok (.iload_n 1, 1) := by decide +kernel
theorem dX11_fault_13 : decode cX11_fault 13 = .ok (.iconst 1, 1) := by decide +kernel
theorem dX11_fault_14 : decode cX11_fault 14 = .ok (.if_icmp .ne 13, 3) := by decide +kernel
theorem dX11_fault_17 : decode cX11_fault 17 = .ok (.aload_n 0, 1) := by decide +kernel
theorem dX11_fault_18 : decode cX11_fault 18 = .ok (.getfield 10, 3) := by decide +kernel
theorem dX11_fault_21 : decode cX11_fault 21 = .ok (.getfield 240, 3) := by decide +kernel
theorem dX11_fault_24 : decode cX11_fault 24 = .ok (.goto 4, 3) := by decide +kernel
theorem dX11_fault_27 : decode cX11_fault 27 = .ok (.iconst (-1), 1) := by decide +kernel
theorem dX11_fault_28 : decode cX11_fault 28 = .ok (.ireturn, 1) := by decide +kernel
theorem dX11_count_0 : decode cX11_count 0 = .ok (.aload_n 0, 1) := by decide +kernel
theorem dX11_count_1 : decode cX11_count 1 = .ok (.getfield 28, 3) := by decide +kernel
theorem dX11_count_4 : decode cX11_count 4 = .ok (.iload_n 1, 1) := by decide +kernel
theorem dX11_count_5 : decode cX11_count 5 = .ok (.invokevirtual 243, 3) := by decide +kernel
theorem dX11_count_8 : decode cX11_count 8 = .ok (.ifCond .ne 7, 3) := by decide +kernel
theorem dX11_count_11 : decode cX11_count 11 = .ok (.sipush (-1000), 3) := by decide +kernel
theorem dX11_count_14 : decode cX11_count 14 = .ok (.ireturn, 1) := by decide +kernel
theorem dX11_count_15 : decode cX11_count 15 = .ok (.aload_n 0, 1) := by decide +kernel
theorem dX11_count_16 : decode cX11_count 16 = .ok (.getfield 44, 3) := by decide +kernel
theorem dX11_count_19 : decode cX11_count 19 = .ok (.invokevirtual 162, 3) := by decide +kernel
theorem dX11_count_22 : decode cX11_count 22 = .ok (.aload_n 0, 1) := by decide +kernel
theorem dX11_count_23 : decode cX11_count 23 = .ok (.getfield 44, 3) := by decide +kernel
theorem dX11_count_26 : decode cX11_count 26 = .ok (.iload_n 1, 1) := by decide +kernel
theorem dX11_count_27 : decode cX11_count 27 = .ok (.invokevirtual 246, 3) := by decide +kernel
theorem dX11_count_30 : decode cX11_count 30 = .ok (.iload_n 2, 1) := by decide +kernel
theorem dX11_count_31 : decode cX11_count 31 = .ok (.tableswitch 109 0 6 #[41, 51, 61, 74, 82, 90, 101], 41) := by decide +kernel
theorem dX11_count_72 : decode cX11_count 72 = .ok (.aload_n 0, 1) := by decide +kernel
theorem dX11_count_73 : decode cX11_count 73 = .ok (.getfield 28, 3) := by decide +kernel
theorem dX11_count_76 : decode cX11_count 76 = .ok (.getfield 249, 3) := by decide +kernel
theorem dX11_count_79 : decode cX11_count 79 = .ok (.iload_n 1, 1) := by decide +kernel
theorem dX11_count_80 : decode cX11_count 80 = .ok (.iaload, 1) := by decide +kernel
theorem dX11_count_81 : decode cX11_count 81 = .ok (.ireturn, 1) := by decide +kernel
theorem dX11_count_82 : decode cX11_count 82 = .ok (.aload_n 0, 1) := by decide +kernel
theorem dX11_count_83 : decode cX11_count 83 = .ok (.getfield 28, 3) := by decide +kernel
theorem dX11_count_86 : decode cX11_count 86 = .ok (.getfield 252, 3) := by decide +kernel
theorem dX11_count_89 : decode cX11_count 89 = .ok (.iload_n 1, 1) := by decide +kernel
theorem dX11_count_90 : decode cX11_count 90 = .ok (.iaload, 1) := by decide +kernel
theorem dX11_count_91 : decode cX11_count 91 = .ok (.ireturn, 1) := by decide +kernel
theorem dX11_count_92 : decode cX11_count 92 = .ok (.aload_n 0, 1) := by decide +kernel
theorem dX11_count_93 : decode cX11_count 93 = .ok (.getfield 28, 3) := by decide +kernel
theorem dX11_count_96 : decode cX11_count 96 = .ok (.getfield 255, 3) := by decide +kernel
theorem dX11_count_99 : decode cX11_count 99 = .ok (.iload_n 1, 1) := by decide +kernel
theorem dX11_count_100 : decode cX11_count 100 = .ok (.baload, 1) := by decide +kernel
theorem dX11_count_101 : decode cX11_count 101 = .ok (.invokestatic 199, 3) := by decide +kernel
theorem dX11_count_104 : decode cX11_count 104 = .ok (.ireturn, 1) := by decide +kernel
theorem dX11_count_105 : decode cX11_count 105 = .ok (.aload_n 0, 1) := by decide +kernel
theorem dX11_count_106 : decode cX11_count 106 = .ok (.getfield 44, 3) := by decide +kernel
theorem dX11_count_109 : decode cX11_count 109 = .ok (.getfield 258, 3) := by decide +kernel
theorem dX11_count_112 : decode cX11_count 112 = .ok (.ireturn, 1) := by decide +kernel
theorem dX11_count_113 : decode cX11_count 113 = .ok (.aload_n 0, 1) := by decide +kernel
theorem dX11_count_114 : decode cX11_count 114 = .ok (.getfield 44, 3) := by decide +kernel
theorem dX11_count_117 : decode cX11_count 117 = .ok (.getfield 261, 3) := by decide +kernel
theorem dX11_count_120 : decode cX11_count 120 = .ok (.ireturn, 1) := by decide +kernel
theorem dX11_count_121 : decode cX11_count 121 = .ok (.aload_n 0, 1) := by decide +kernel
theorem dX11_count_122 : decode cX11_count 122 = .ok (.getfield 44, 3) := by decide +kernel
theorem dX11_count_125 : decode cX11_count 125 = .ok (.invokevirtual 264, 3) := by decide +kernel
theorem dX11_count_128 : decode cX11_count 128 = .ok (.invokestatic 199, 3) := by decide +kernel
theorem dX11_count_131 : decode cX11_count 131 = .ok (.ireturn, 1) := by decide +kernel
theorem dX11_count_132 : decode cX11_count 132 = .ok (.aload_n 0, 1) := by decide +kernel
theorem dX11_count_133 : decode cX11_count 133 = .ok (.getfield 44, 3) := by decide +kernel
theorem dX11_count_136 : decode cX11_count 136 = .ok (.invokevirtual 267, 3) := by decide +kernel
theorem dX11_count_139 : decode cX11_count 139 = .ok (.ireturn, 1) := by decide +kernel
theorem dX11_count_140 : decode cX11_count 140 = .ok (.sipush (-1000), 3) := by decide +kernel
theorem dX11_count_143 : decode cX11_count 143 = .ok (.ireturn, 1) := by decide +kernel
theorem dX11_has_0 : decode cX11_has 0 = .ok (.aload_n 0, 1) := by decide +kernel
theorem dX11_has_1 : decode cX11_has 1 = .ok (.getfield 35, 3) := by decide +kernel
theorem dX11_has_4 : decode cX11_has 4 = .ok (.iload_n 1, 1) := by decide +kernel
theorem dX11_has_5 : decode cX11_has 5 = .ok (.invokevirtual 191, 3) := by decide +kernel
theorem dX11_has_8 : decode cX11_has 8 = .ok (.ifCond .eq 14, 3) := by decide +kernel
theorem dX11_has_11 : decode cX11_has 11 = .ok (.aload_n 0, 1) := by decide +kernel
theorem dX11_has_12 : decode cX11_has 12 = .ok (.getfield 28, 3) := by decide +kernel
theorem dX11_has_15 : decode cX11_has 15 = .ok (.iload_n 2, 1) := by decide +kernel
theorem dX11_has_16 : decode cX11_has 16 = .ok (.invokevirtual 243, 3) := by decide +kernel
theorem dX11_has_19 : decode cX11_has 19 = .ok (.ifCond .ne 5, 3) := by decide +kernel
theorem dX11_has_22 : decode cX11_has 22 = .ok (.iconst (-1), 1) := by decide +kernel
theorem dX11_has_23 : decode cX11_has 23 = .ok (.ireturn, 1) := by decide +kernel
theorem dX11_has_24 : decode cX11_has 24 = .ok (.aload_n 0, 1) := by decide +kernel
theorem dX11_has_25 : decode cX11_has 25 = .ok (.getfield 44, 3) := by decide +kernel
theorem dX11_has_28 : decode cX11_has 28 = .ok (.invokevirtual 162, 3) := by decide +kernel
theorem dX11_has_31 : decode cX11_has 31 = .ok (.aload_n 0, 1) := by decide +kernel
theorem dX11_has_32 : decode cX11_has 32 = .ok (.getfield 44, 3) := by decide +kernel
theorem dX11_has_35 : decode cX11_has 35 = .ok (.iload_n 2, 1) := by decide +kernel
theorem dX11_has_36 : decode cX11_has 36 = .ok (.invokevirtual 270, 3) := by decide +kernel
theorem dX11_has_39 : decode cX11_has 39 = .ok (.ifCond .eq 18, 3) := by decide +kernel
theorem dX11_has_42 : decode cX11_has 42 = .ok (.aload_n 0, 1) := by decide +kernel
theorem dX11_has_43 : decode cX11_has 43 = .ok (.getfield 44, 3) := by decide +kernel
theorem dX11_has_46 : decode cX11_has 46 = .ok (.iload_n 1, 1) := by decide +kernel
theorem dX11_has_47 : decode cX11_has 47 = .ok (.invokevirtual 273, 3) := by decide +kernel
theorem dX11_has_50 : decode cX11_has 50 = .ok (.ifCond .eq 7, 3) := by decide +kernel
theorem dX11_has_53 : decode cX11_has 53 = .ok (.iconst 1, 1) := by decide +kernel
theorem dX11_has_54 : decode cX11_has 54 = .ok (.goto 4, 3) := by decide +kernel
theorem dX11_has_57 : decode cX11_has 57 = .ok (.iconst 0, 1) := by decide +kernel
theorem dX11_has_58 : decode cX11_has 58 = .ok (.invokestatic 199, 3) := by decide +kernel
theorem dX11_has_61 : decode cX11_has 61 = .ok (.ireturn, 1) := by decide +kernel
theorem dX11_counts_0 : decode cX11_counts 0 = .ok (.aload_n 0, 1) := by decide +kernel
theorem dX11_counts_1 : decode cX11_counts 1 = .ok (.getfield 35, 3) := by decide +kernel
theorem dX11_counts_4 : decode cX11_counts 4 = .ok (.iload_n 1, 1) := by decide +kernel
theorem dX11_counts_5 : decode cX11_counts 5 = .ok (.invokevirtual 191, 3) := by decide +kernel
theorem dX11_counts_8 : decode cX11_counts 8 = .ok (.ifCond .ne 5, 3) := by decide +kernel
theorem dX11_counts_11 : decode cX11_counts 11 = .ok (.iconst (-1), 1) := by decide +kernel
theorem dX11_counts_12 : decode cX11_counts 12 = .ok (.ireturn, 1) := by decide +kernel
theorem dX11_counts_13 : decode cX11_counts 13 = .ok (.aload_n 0, 1) := by decide +kernel
theorem dX11_counts_14 : decode cX11_counts 14 = .ok (.getfield 44, 3) := by decide +kernel
theorem dX11_counts_17 : decode cX11_counts 17 = .ok (.invokevirtual 162, 3) := by decide +kernel
theorem dX11_counts_20 : decode cX11_counts 20 = .ok (.aload_n 0, 1) := by decide +kernel
theorem dX11_counts_21 : decode cX11_counts 21 = .ok (.getfield 44, 3) := by decide +kernel
theorem dX11_counts_24 : decode cX11_counts 24 = .ok (.iload_n 1, 1) := by decide +kernel
theorem dX11_counts_25 : decode cX11_counts 25 = .ok (.invokevirtual 276, 3) := by decide +kernel
theorem dX11_counts_28 : decode cX11_counts 28 = .ok (.ireturn, 1) := by decide +kernel
theorem dX11_house_0 : decode cX11_house 0 = .ok (.aload_n 0, 1) := by decide +kernel
theorem dX11_house_1 : decode cX11_house 1 = .ok (.getfield 44, 3) := by decide +kernel
theorem dX11_house_4 : decode cX11_house 4 = .ok (.invokevirtual 162, 3) := by decide +kernel
theorem dX11_house_7 : decode cX11_house 7 = .ok (.aload_n 0, 1) := by decide +kernel
theorem dX11_house_8 : decode cX11_house 8 = .ok (.getfield 44, 3) := by decide +kernel
theorem dX11_house_11 : decode cX11_house 11 = .ok (.invokevirtual 280, 3) := by decide +kernel
theorem dX11_house_14 : decode cX11_house 14 = .ok (.ireturn, 1) := by decide +kernel
theorem dX11_grid_0 : decode cX11_grid 0 = .ok (.aload_n 0, 1) := by decide +kernel
theorem dX11_grid_1 : decode cX11_grid 1 = .ok (.getfield 51, 3) := by decide +kernel
theorem dX11_grid_4 : decode cX11_grid 4 = .ok (.invokevirtual 283, 3) := by decide +kernel
theorem dX11_grid_7 : decode cX11_grid 7 = .ok (.iload_n 1, 1) := by decide +kernel
theorem dX11_grid_8 : decode cX11_grid 8 = .ok (.iconst 1, 1) := by decide +kernel
theorem dX11_grid_9 : decode cX11_grid 9 = .ok (.bipush 6, 2) := by decide +kernel
theorem dX11_grid_11 : decode cX11_grid 11 = .ok (.invokestatic 109, 3) := by decide +kernel
theorem dX11_grid_14 : decode cX11_grid 14 = .ok (.ifCond .eq 14, 3) := by decide +kernel
theorem dX11_grid_17 : decode cX11_grid 17 = .ok (.iload 4, 2) := by decide +kernel
theorem dX11_grid_19 : decode cX11_grid 19 = .ok (.iconst 1, 1) := by decide +kernel
theorem dX11_grid_20 : decode cX11_grid 20 = .ok (.bipush 6, 2) := by decide +kernel
theorem dX11_grid_22 : decode cX11_grid 22 = .ok (.invokestatic 109, 3) := by decide +kernel
theorem dX11_grid_25 : decode cX11_grid 25 = .ok (.ifCond .ne 5, 3) := by decide +kernel
theorem dX11_grid_28 : decode cX11_grid 28 = .ok (.iconst (-1), 1) := by decide +kernel
theorem dX11_grid_29 : decode cX11_grid 29 = .ok (.ireturn, 1) := by decide +kernel
theorem dX11_grid_30 : decode cX11_grid 30 = .ok (.iload_n 2, 1) := by decide +kernel
theorem dX11_grid_31 : decode cX11_grid 31 = .ok (.bipush (-20), 2) := by decide +kernel
theorem dX11_grid_33 : decode cX11_grid 33 = .ok (.bipush 20, 2) := by decide +kernel
theorem dX11_grid_35 : decode cX11_grid 35 = .ok (.invokestatic 109, 3) := by decide +kernel
theorem dX11_grid_38 : decode cX11_grid 38 = .ok (.ifCond .eq 25, 3) := by decide +kernel
theorem dX11_grid_41 : decode cX11_grid 41 = .ok (.iload_n 3, 1) := by decide +kernel
theorem dX11_grid_42 : decode cX11_grid 42 = .ok (.bipush (-20), 2) := by decide +kernel
theorem dX11_grid_44 : decode cX11_grid 44 = .ok (.bipush 20, 2) := by decide +kernel
theorem dX11_grid_46 : decode cX11_grid 46 = .ok (.invokestatic 109, 3) := by decide +kernel
theorem dX11_grid_49 : decode cX11_grid 49 = .ok (.ifCond .eq 14, 3) := by decide +kernel
theorem dX11_grid_52 : decode cX11_grid 52 = .ok (.iload 5, 2) := by decide +kernel
theorem dX11_grid_54 : decode cX11_grid 54 = .ok (.iconst 0, 1) := by decide +kernel
theorem dX11_grid_55 : decode cX11_grid 55 = .ok (.bipush 20, 2) := by decide +kernel
theorem dX11_grid_57 : decode cX11_grid 57 = .ok (.invokestatic 109, 3) := by decide +kernel
theorem dX11_grid_60 : decode cX11_grid 60 = .ok (.ifCond .ne 5, 3) := by decide +kernel
theorem dX11_grid_63 : decode cX11_grid 63 = .ok (.iconst (-1), 1) := by decide +kernel
theorem dX11_grid_64 : decode cX11_grid 64 = .ok (.ireturn, 1) := by decide +kernel
theorem dX11_grid_65 : decode cX11_grid 65 = .ok (.aload_n 0, 1) := by decide +kernel
theorem dX11_grid_66 : decode cX11_grid 66 = .ok (.getfield 51, 3) := by decide +kernel
theorem dX11_grid_69 : decode cX11_grid 69 = .ok (.iload_n 1, 1) := by decide +kernel
theorem dX11_grid_70 : decode cX11_grid 70 = .ok (.iload_n 2, 1) := by decide +kernel
theorem dX11_grid_71 : decode cX11_grid 71 = .ok (.iload_n 3, 1) := by decide +kernel
theorem dX11_grid_72 : decode cX11_grid 72 = .ok (.iload 4, 2) := by decide +kernel
theorem dX11_grid_74 : decode cX11_grid 74 = .ok (.iload 5, 2) := by decide +kernel
theorem dX11_grid_76 : decode cX11_grid 76 = .ok (.invokevirtual 286, 3) := by decide +kernel
theorem dX11_grid_79 : decode cX11_grid 79 = .ok (.aload_n 0, 1) := by decide +kernel
theorem dX11_grid_80 : decode cX11_grid 80 = .ok (.getfield 51, 3) := by decide +kernel
theorem dX11_grid_83 : decode cX11_grid 83 = .ok (.aload_n 0, 1) := by decide +kernel
theorem dX11_grid_84 : decode cX11_grid 84 = .ok (.getfield 35, 3) := by decide +kernel
theorem dX11_grid_87 : decode cX11_grid 87 = .ok (.invokevirtual 290, 3) := by decide +kernel
theorem dX11_grid_90 : decode cX11_grid 90 = .ok (.ifCond .ne 12, 3) := by decide +kernel
theorem dX11_grid_93 : decode cX11_grid 93 = .ok (.aload_n 0, 1) := by decide +kernel
theorem dX11_grid_94 : decode cX11_grid 94 = .ok (.getfield 51, 3) := by decide +kernel
theorem dX11_grid_97 : decode cX11_grid 97 = .ok (.invokevirtual 283, 3) := by decide +kernel
theorem dX11_grid_100 : decode cX11_grid 100 = .ok (.iconst (-1), 1) := by decide +kernel
theorem dX11_grid_101 : decode cX11_grid 101 = .ok (.ireturn, 1) := by decide +kernel
theorem dX11_grid_102 : decode cX11_grid 102 = .ok (.aload_n 0, 1) := by decide +kernel
theorem dX11_grid_103 : decode cX11_grid 103 = .ok (.getfield 51, 3) := by decide +kernel
theorem dX11_grid_106 : decode cX11_grid 106 = .ok (.invokevirtual 294, 3) := by decide +kernel
theorem dX11_grid_109 : decode cX11_grid 109 = .ok (.ireturn, 1) := by decide +kernel
theorem dX11_tried_0 : decode cX11_tried 0 = .ok (.aload_n 0, 1) := by decide +kernel
theorem dX11_tried_1 : decode cX11_tried 1 = .ok (.iload_n 1, 1) := by decide +kernel
theorem dX11_tried_2 : decode cX11_tried 2 = .ok (.invokevirtual 297, 3) := by decide +kernel
theorem dX11_tried_5 : decode cX11_tried 5 = .ok (.ifCond .ne 5, 3) := by decide +kernel
theorem dX11_tried_8 : decode cX11_tried 8 = .ok (.iconst (-1), 1) := by decide +kernel
theorem dX11_tried_9 : decode cX11_tried 9 = .ok (.ireturn, 1) := by decide +kernel
theorem dX11_tried_10 : decode cX11_tried 10 = .ok (.aload_n 0, 1) := by decide +kernel
theorem dX11_tried_11 : decode cX11_tried 11 = .ok (.getfield 44, 3) := by decide +kernel
theorem dX11_tried_14 : decode cX11_tried 14 = .ok (.aload_n 0, 1) := by decide +kernel
theorem dX11_tried_15 : decode cX11_tried 15 = .ok (.getfield 51, 3) := by decide +kernel
theorem dX11_tried_18 : decode cX11_tried 18 = .ok (.iload_n 1, 1) := by decide +kernel
theorem dX11_tried_19 : decode cX11_tried 19 = .ok (.invokevirtual 300, 3) := by decide +kernel
theorem dX11_tried_22 : decode cX11_tried 22 = .ok (.aload_n 0, 1) := by decide +kernel
theorem dX11_tried_23 : decode cX11_tried 23 = .ok (.getfield 44, 3) := by decide +kernel
theorem dX11_tried_26 : decode cX11_tried 26 = .ok (.invokevirtual 280, 3) := by decide +kernel
theorem dX11_tried_29 : decode cX11_tried 29 = .ok (.ireturn, 1) := by decide +kernel
theorem dX11_best_0 : decode cX11_best 0 = .ok (.aload_n 0, 1) := by decide +kernel
theorem dX11_best_1 : decode cX11_best 1 = .ok (.getfield 51, 3) := by decide +kernel
theorem dX11_best_4 : decode cX11_best 4 = .ok (.aload_n 0, 1) := by decide +kernel
theorem dX11_best_5 : decode cX11_best 5 = .ok (.getfield 35, 3) := by decide +kernel
theorem dX11_best_8 : decode cX11_best 8 = .ok (.invokevirtual 290, 3) := by decide +kernel
theorem dX11_best_11 : decode cX11_best 11 = .ok (.ifCond .ne 5, 3) := by decide +kernel
theorem dX11_best_14 : decode cX11_best 14 = .ok (.iconst (-1), 1) := by decide +kernel
theorem dX11_best_15 : decode cX11_best 15 = .ok (.ireturn, 1) := by decide +kernel
theorem dX11_best_16 : decode cX11_best 16 = .ok (.iconst 0, 1) := by decide +kernel
theorem dX11_best_17 : decode cX11_best 17 = .ok (.istore_n 1, 1) := by decide +kernel
theorem dX11_best_18 : decode cX11_best 18 = .ok (.iconst (-1), 1) := by decide +kernel
theorem dX11_best_19 : decode cX11_best 19 = .ok (.istore_n 2, 1) := by decide +kernel
theorem dX11_best_20 : decode cX11_best 20 = .ok (.iconst 0, 1) := by decide +kernel
theorem dX11_best_21 : decode cX11_best 21 = .ok (.istore_n 3, 1) := by decide +kernel
theorem dX11_best_22 : decode cX11_best 22 = .ok (.iload_n 3, 1) := by decide +kernel
theorem dX11_best_23 : decode cX11_best 23 = .ok (.aload_n 0, 1) := by decide +kernel
theorem dX11_best_24 : decode cX11_best 24 = .ok (.getfield 51, 3) := by decide +kernel
theorem dX11_best_27 : decode cX11_best 27 = .ok (.invokevirtual 294, 3) := by decide +kernel
theorem dX11_best_30 : decode cX11_best 30 = .ok (.if_icmp .ge 41, 3) := by decide +kernel
theorem dX11_best_33 : decode cX11_best 33 = .ok (.aload_n 0, 1) := by decide +kernel
theorem dX11_best_34 : decode cX11_best 34 = .ok (.getfield 44, 3) := by decide +kernel
theorem dX11_best_37 : decode cX11_best 37 = .ok (.aload_n 0, 1) := by decide +kernel
theorem dX11_best_38 : decode cX11_best 38 = .ok (.getfield 51, 3) := by decide +kernel
theorem dX11_best_41 : decode cX11_best 41 = .ok (.iload_n 3, 1) := by decide +kernel
theorem dX11_best_42 : decode cX11_best 42 = .ok (.invokevirtual 300, 3) := by decide +kernel
theorem dX11_best_45 : decode cX11_best 45 = .ok (.aload_n 0, 1) := by decide +kernel
theorem dX11_best_46 : decode cX11_best 46 = .ok (.getfield 44, 3) := by decide +kernel
theorem dX11_best_49 : decode cX11_best 49 = .ok (.invokevirtual 280, 3) := by decide +kernel
theorem dX11_best_52 : decode cX11_best 52 = .ok (.istore 4, 2) := by decide +kernel
theorem dX11_best_54 : decode cX11_best 54 = .ok (.iload 4, 2) := by decide +kernel
theorem dX11_best_56 : decode cX11_best 56 = .ok (.iload_n 2, 1) := by decide +kernel
theorem dX11_best_57 : decode cX11_best 57 = .ok (.if_icmp .le 8, 3) := by decide +kernel
theorem dX11_best_60 : decode cX11_best 60 = .ok (.iload 4, 2) := by decide +kernel
theorem dX11_best_62 : decode cX11_best 62 = .ok (.istore_n 2, 1) := by decide +kernel
theorem dX11_best_63 : decode cX11_best 63 = .ok (.iload_n 3, 1) := by decide +kernel
theorem dX11_best_64 : decode cX11_best 64 = .ok (.istore_n 1, 1) := by decide +kernel
theorem dX11_best_65 : decode cX11_best 65 = .ok (.iinc 3 1, 3) := by decide +kernel
theorem dX11_best_68 : decode cX11_best 68 = .ok (.goto (-46), 3) := by decide +kernel
theorem dX11_best_71 : decode cX11_best 71 = .ok (.iload_n 1, 1) := by decide +kernel
theorem dX11_best_72 : decode cX11_best 72 = .ok (.ireturn, 1) := by decide +kernel
theorem dX11_take_0 : decode cX11_take 0 = .ok (.aload_n 0, 1) := by decide +kernel
theorem dX11_take_1 : decode cX11_take 1 = .ok (.iload_n 1, 1) := by decide +kernel
theorem dX11_take_2 : decode cX11_take 2 = .ok (.invokevirtual 297, 3) := by decide +kernel
theorem dX11_take_5 : decode cX11_take 5 = .ok (.ifCond .ne 5, 3) := by decide +kernel
theorem dX11_take_8 : decode cX11_take 8 = .ok (.iconst 0, 1) := by decide +kernel
theorem dX11_take_9 : decode cX11_take 9 = .ok (.ireturn, 1) := by decide +kernel
theorem dX11_take_10 : decode cX11_take 10 = .ok (.aload_n 0, 1) := by decide +kernel
theorem dX11_take_11 : decode cX11_take 11 = .ok (.getfield 51, 3) := by decide +kernel
theorem dX11_take_14 : decode cX11_take 14 = .ok (.aload_n 0, 1) := by decide +kernel
theorem dX11_take_15 : decode cX11_take 15 = .ok (.getfield 35, 3) := by decide +kernel
theorem dX11_take_18 : decode cX11_take 18 = .ok (.iload_n 1, 1) := by decide +kernel
theorem dX11_take_19 : decode cX11_take 19 = .ok (.invokevirtual 304, 3) := by decide +kernel
theorem dX11_take_22 : decode cX11_take 22 = .ok (.istore_n 2, 1) := by decide +kernel
theorem dX11_take_23 : decode cX11_take 23 = .ok (.aload_n 0, 1) := by decide +kernel
theorem dX11_take_24 : decode cX11_take 24 = .ok (.getfield 51, 3) := by decide +kernel
theorem dX11_take_27 : decode cX11_take 27 = .ok (.aload_n 0, 1) := by decide +kernel
theorem dX11_take_28 : decode cX11_take 28 = .ok (.getfield 35, 3) := by decide +kernel
theorem dX11_take_31 : decode cX11_take 31 = .ok (.iload_n 1, 1) := by decide +kernel
theorem dX11_take_32 : decode cX11_take 32 = .ok (.invokevirtual 308, 3) := by decide +kernel
theorem dX11_take_35 : decode cX11_take 35 = .ok (.istore_n 3, 1) := by decide +kernel
theorem dX11_take_36 : decode cX11_take 36 = .ok (.aload_n 0, 1) := by decide +kernel
theorem dX11_take_37 : decode cX11_take 37 = .ok (.getfield 35, 3) := by decide +kernel
theorem dX11_take_40 : decode cX11_take 40 = .ok (.aload_n 0, 1) := by decide +kernel
theorem dX11_take_41 : decode cX11_take 41 = .ok (.getfield 51, 3) := by decide +kernel
theorem dX11_take_44 : decode cX11_take 44 = .ok (.aload_n 0, 1) := by decide +kernel
theorem dX11_take_45 : decode cX11_take 45 = .ok (.getfield 35, 3) := by decide +kernel
theorem dX11_take_48 : decode cX11_take 48 = .ok (.iload_n 1, 1) := by decide +kernel
theorem dX11_take_49 : decode cX11_take 49 = .ok (.invokevirtual 311, 3) := by decide +kernel
theorem dX11_take_52 : decode cX11_take 52 = .ok (.putfield 119, 3) := by decide +kernel
theorem dX11_take_55 : decode cX11_take 55 = .ok (.aload_n 0, 1) := by decide +kernel
theorem dX11_take_56 : decode cX11_take 56 = .ok (.getfield 35, 3) := by decide +kernel
theorem dX11_take_59 : decode cX11_take 59 = .ok (.iload_n 2, 1) := by decide +kernel
theorem dX11_take_60 : decode cX11_take 60 = .ok (.putfield 91, 3) := by decide +kernel
theorem dX11_take_63 : decode cX11_take 63 = .ok (.aload_n 0, 1) := by decide +kernel
theorem dX11_take_64 : decode cX11_take 64 = .ok (.getfield 35, 3) := by decide +kernel
theorem dX11_take_67 : decode cX11_take 67 = .ok (.iload_n 3, 1) := by decide +kernel
theorem dX11_take_68 : decode cX11_take 68 = .ok (.putfield 94, 3) := by decide +kernel
theorem dX11_take_71 : decode cX11_take 71 = .ok (.aload_n 0, 1) := by decide +kernel
theorem dX11_take_72 : decode cX11_take 72 = .ok (.getfield 51, 3) := by decide +kernel
theorem dX11_take_75 : decode cX11_take 75 = .ok (.invokevirtual 283, 3) := by decide +kernel
theorem dX11_take_78 : decode cX11_take 78 = .ok (.iconst 1, 1) := by decide +kernel
theorem dX11_take_79 : decode cX11_take 79 = .ok (.ireturn, 1) := by decide +kernel
theorem dX11_joins_0 : decode cX11_joins 0 = .ok (.iload_n 1, 1) := by decide +kernel
theorem dX11_joins_1 : decode cX11_joins 1 = .ok (.iconst 1, 1) := by decide +kernel
theorem dX11_joins_2 : decode cX11_joins 2 = .ok (.sipush 1000, 3) := by decide +kernel
theorem dX11_joins_5 : decode cX11_joins 5 = .ok (.invokestatic 109, 3) := by decide +kernel
theorem dX11_joins_8 : decode cX11_joins 8 = .ok (.ifCond .eq 13, 3) := by decide +kernel
theorem dX11_joins_11 : decode cX11_joins 11 = .ok (.iload_n 2, 1) := by decide +kernel
theorem dX11_joins_12 : decode cX11_joins 12 = .ok (.iconst 0, 1) := by decide +kernel
theorem dX11_joins_13 : decode cX11_joins 13 = .ok (.bipush 100, 2) := by decide +kernel
theorem dX11_joins_15 : decode cX11_joins 15 = .ok (.invokestatic 109, 3) := by decide +kernel
theorem dX11_joins_18 : decode cX11_joins 18 = .ok (.ifCond .ne 5, 3) := by decide +kernel
theorem dX11_joins_21 : decode cX11_joins 21 = .ok (.iconst (-1), 1) := by decide +kernel
theorem dX11_joins_22 : decode cX11_joins 22 = .ok (.ireturn, 1) := by decide +kernel
theorem dX11_joins_23 : decode cX11_joins 23 = .ok (.aload_n 0, 1) := by decide +kernel
theorem dX11_joins_24 : decode cX11_joins 24 = .ok (.getfield 44, 3) := by decide +kernel
theorem dX11_joins_27 : decode cX11_joins 27 = .ok (.invokevirtual 162, 3) := by decide +kernel
theorem dX11_joins_30 : decode cX11_joins 30 = .ok (.aload_n 0, 1) := by decide +kernel
theorem dX11_joins_31 : decode cX11_joins 31 = .ok (.getfield 58, 3) := by decide +kernel
theorem dX11_joins_34 : decode cX11_joins 34 = .ok (.invokevirtual 314, 3) := by decide +kernel
theorem dX11_joins_37 : decode cX11_joins 37 = .ok (.aload_n 0, 1) := by decide +kernel
theorem dX11_joins_38 : decode cX11_joins 38 = .ok (.getfield 44, 3) := by decide +kernel
theorem dX11_joins_41 : decode cX11_joins 41 = .ok (.aload_n 0, 1) := by decide +kernel
theorem dX11_joins_42 : decode cX11_joins 42 = .ok (.getfield 58, 3) := by decide +kernel
theorem dX11_joins_45 : decode cX11_joins 45 = .ok (.invokevirtual 317, 3) := by decide +kernel
theorem dX11_joins_48 : decode cX11_joins 48 = .ok (.aload_n 0, 1) := by decide +kernel
theorem dX11_joins_49 : decode cX11_joins 49 = .ok (.getfield 58, 3) := by decide +kernel
theorem dX11_joins_52 : decode cX11_joins 52 = .ok (.iload_n 2, 1) := by decide +kernel
theorem dX11_joins_53 : decode cX11_joins 53 = .ok (.invokevirtual 321, 3) := by decide +kernel
theorem dX11_joins_56 : decode cX11_joins 56 = .ok (.aload_n 0, 1) := by decide +kernel
theorem dX11_joins_57 : decode cX11_joins 57 = .ok (.getfield 58, 3) := by decide +kernel
theorem dX11_joins_60 : decode cX11_joins 60 = .ok (.iload_n 1, 1) := by decide +kernel
theorem dX11_joins_61 : decode cX11_joins 61 = .ok (.invokevirtual 324, 3) := by decide +kernel
theorem dX11_joins_64 : decode cX11_joins 64 = .ok (.ifCond .eq 13, 3) := by decide +kernel
theorem dX11_joins_67 : decode cX11_joins 67 = .ok (.aload_n 0, 1) := by decide +kernel
theorem dX11_joins_68 : decode cX11_joins 68 = .ok (.getfield 58, 3) := by decide +kernel
theorem dX11_joins_71 : decode cX11_joins 71 = .ok (.getfield 327, 3) := by decide +kernel
theorem dX11_joins_74 : decode cX11_joins 74 = .ok (.goto 5, 3) := by decide +kernel
theorem dX11_joins_77 : decode cX11_joins 77 = .ok (.bipush (-2), 2) := by decide +kernel
theorem dX11_joins_79 : decode cX11_joins 79 = .ok (.ireturn, 1) := by decide +kernel
theorem dX11_join_0 : decode cX11_join 0 = .ok (.iload_n 1, 1) := by decide +kernel
theorem dX11_join_1 : decode cX11_join 1 = .ok (.ifCond .lt 14, 3) := by decide +kernel
theorem dX11_join_4 : decode cX11_join 4 = .ok (.iload_n 1, 1) := by decide +kernel
theorem dX11_join_5 : decode cX11_join 5 = .ok (.aload_n 0, 1) := by decide +kernel
theorem dX11_join_6 : decode cX11_join 6 = .ok (.getfield 58, 3) := by decide +kernel
theorem dX11_join_9 : decode cX11_join 9 = .ok (.getfield 327, 3) := by decide +kernel
theorem dX11_join_12 : decode cX11_join 12 = .ok (.if_icmp .lt 5, 3) := by decide +kernel
theorem dX11_join_15 : decode cX11_join 15 = .ok (.iconst (-1), 1) := by decide +kernel
theorem dX11_join_16 : decode cX11_join 16 = .ok (.ireturn, 1) := by decide +kernel
theorem dX11_join_17 : decode cX11_join 17 = .ok (.aload_n 0, 1) := by decide +kernel
theorem dX11_join_18 : decode cX11_join 18 = .ok (.getfield 58, 3) := by decide +kernel
theorem dX11_join_21 : decode cX11_join 21 = .ok (.getfield 330, 3) := by decide +kernel
theorem dX11_join_24 : decode cX11_join 24 = .ok (.iload_n 1, 1) := by decide +kernel
theorem dX11_join_25 : decode cX11_join 25 = .ok (.iaload, 1) := by decide +kernel
theorem dX11_join_26 : decode cX11_join 26 = .ok (.ireturn, 1) := by decide +kernel
theorem dX11_report_0 : decode cX11_report 0 = .ok (.iload_n 1, 1) := by decide +kernel
theorem dX11_report_1 : decode cX11_report 1 = .ok (.iconst 0, 1) := by decide +kernel
theorem dX11_report_2 : decode cX11_report 2 = .ok (.bipush 7, 2) := by decide +kernel
theorem dX11_report_4 : decode cX11_report 4 = .ok (.invokestatic 109, 3) := by decide +kernel
theorem dX11_report_7 : decode cX11_report 7 = .ok (.ifCond .eq 24, 3) := by decide +kernel
theorem dX11_report_10 : decode cX11_report 10 = .ok (.iload_n 2, 1) := by decide +kernel
theorem dX11_report_11 : decode cX11_report 11 = .ok (.iconst 0, 1) := by decide +kernel
theorem dX11_report_12 : decode cX11_report 12 = .ok (.sipush 240, 3) := by decide +kernel
theorem dX11_report_15 : decode cX11_report 15 = .ok (.invokestatic 109, 3) := by decide +kernel
theorem dX11_report_18 : decode cX11_report 18 = .ok (.ifCond .eq 13, 3) := by decide +kernel
theorem dX11_report_21 : decode cX11_report 21 = .ok (.aload_n 0, 1) := by decide +kernel
theorem dX11_report_22 : decode cX11_report 22 = .ok (.getfield 65, 3) := by decide +kernel
theorem dX11_report_25 : decode cX11_report 25 = .ok (.invokevirtual 333, 3) := by decide +kernel
theorem dX11_report_28 : decode cX11_report 28 = .ok (.ifCond .eq 5, 3) := by decide +kernel
theorem dX11_report_31 : decode cX11_report 31 = .ok (.iconst (-1), 1) := by decide +kernel
theorem dX11_report_32 : decode cX11_report 32 = .ok (.ireturn, 1) := by decide +kernel
theorem dX11_report_33 : decode cX11_report 33 = .ok (.aload_n 0, 1) := by decide +kernel
theorem dX11_report_34 : decode cX11_report 34 = .ok (.getfield 65, 3) := by decide +kernel
theorem dX11_report_37 : decode cX11_report 37 = .ok (.iload_n 1, 1) := by decide +kernel
theorem dX11_report_38 : decode cX11_report 38 = .ok (.iload_n 2, 1) := by decide +kernel
theorem dX11_report_39 : decode cX11_report 39 = .ok (.iload_n 3, 1) := by decide +kernel
theorem dX11_report_40 : decode cX11_report 40 = .ok (.invokevirtual 336, 3) := by decide +kernel
theorem dX11_report_43 : decode cX11_report 43 = .ok (.ireturn, 1) := by decide +kernel
theorem dX11_void__0 : decode cX11_void_ 0 = .ok (.aload_n 0, 1) := by decide +kernel
theorem dX11_void__1 : decode cX11_void_ 1 = .ok (.getfield 65, 3) := by decide +kernel
theorem dX11_void__4 : decode cX11_void_ 4 = .ok (.iload_n 1, 1) := by decide +kernel
theorem dX11_void__5 : decode cX11_void_ 5 = .ok (.invokevirtual 340, 3) := by decide +kernel
theorem dX11_void__8 : decode cX11_void_ 8 = .ok (.ifCond .ne 5, 3) := by decide +kernel
theorem dX11_void__11 : decode cX11_void_ 11 = .ok (.iconst (-1), 1) := by decide +kernel
theorem dX11_void__12 : decode cX11_void_ 12 = .ok (.ireturn, 1) := by decide +kernel
theorem dX11_void__13 : decode cX11_void_ 13 = .ok (.aload_n 0, 1) := by decide +kernel
theorem dX11_void__14 : decode cX11_void_ 14 = .ok (.getfield 65, 3) := by decide +kernel
theorem dX11_void__17 : decode cX11_void_ 17 = .ok (.iload_n 1, 1) := by decide +kernel
theorem dX11_void__18 : decode cX11_void_ 18 = .ok (.invokevirtual 343, 3) := by decide +kernel
theorem dX11_void__21 : decode cX11_void_ 21 = .ok (.ireturn, 1) := by decide +kernel
theorem dX11_quarrels_0 : decode cX11_quarrels 0 = .ok (.aload_n 0, 1) := by decide +kernel
theorem dX11_quarrels_1 : decode cX11_quarrels 1 = .ok (.getfield 65, 3) := by decide +kernel
theorem dX11_quarrels_4 : decode cX11_quarrels 4 = .ok (.iload_n 2, 1) := by decide +kernel
theorem dX11_quarrels_5 : decode cX11_quarrels 5 = .ok (.invokevirtual 346, 3) := by decide +kernel
theorem dX11_quarrels_8 : decode cX11_quarrels 8 = .ok (.istore_n 3, 1) := by decide +kernel
theorem dX11_quarrels_9 : decode cX11_quarrels 9 = .ok (.iload_n 3, 1) := by decide +kernel
theorem dX11_quarrels_10 : decode cX11_quarrels 10 = .ok (.ifCond .lt 11, 3) := by decide +kernel
theorem dX11_quarrels_13 : decode cX11_quarrels 13 = .ok (.aload_n 0, 1) := by decide +kernel
theorem dX11_quarrels_14 : decode cX11_quarrels 14 = .ok (.iload_n 1, 1) := by decide +kernel
theorem dX11_quarrels_15 : decode cX11_quarrels 15 = .ok (.invokevirtual 297, 3) := by decide +kernel
theorem dX11_quarrels_18 : decode cX11_quarrels 18 = .ok (.ifCond .ne 5, 3) := by decide +kernel
theorem dX11_quarrels_21 : decode cX11_quarrels 21 = .ok (.iconst (-1), 1) := by decide +kernel
theorem dX11_quarrels_22 : decode cX11_quarrels 22 = .ok (.ireturn, 1) := by decide +kernel
theorem dX11_quarrels_23 : decode cX11_quarrels 23 = .ok (.aload_n 0, 1) := by decide +kernel
theorem dX11_quarrels_24 : decode cX11_quarrels 24 = .ok (.getfield 44, 3) := by decide +kernel
theorem dX11_quarrels_27 : decode cX11_quarrels 27 = .ok (.aload_n 0, 1) := by decide +kernel
theorem dX11_quarrels_28 : decode cX11_quarrels 28 = .ok (.getfield 51, 3) := by decide +kernel
theorem dX11_quarrels_31 : decode cX11_quarrels 31 = .ok (.iload_n 1, 1) := by decide +kernel
theorem dX11_quarrels_32 : decode cX11_quarrels 32 = .ok (.invokevirtual 300, 3) := by decide +kernel
theorem dX11_quarrels_35 : decode cX11_quarrels 35 = .ok (.aload_n 0, 1) := by decide +kernel
theorem dX11_quarrels_36 : decode cX11_quarrels 36 = .ok (.getfield 65, 3) := by decide +kernel
theorem dX11_quarrels_39 : decode cX11_quarrels 39 = .ok (.aload_n 0, 1) := by decide +kernel
theorem dX11_quarrels_40 : decode cX11_quarrels 40 = .ok (.getfield 44, 3) := by decide +kernel
theorem dX11_quarrels_43 : decode cX11_quarrels 43 = .ok (.iload_n 3, 1) := by decide +kernel
theorem dX11_quarrels_44 : decode cX11_quarrels 44 = .ok (.invokevirtual 349, 3) := by decide +kernel
theorem dX11_quarrels_47 : decode cX11_quarrels 47 = .ok (.aload_n 0, 1) := by decide +kernel
