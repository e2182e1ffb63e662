theorem dX0_init_0 : decode cX0_init 0 = .ok (.aload_n 0, 1) := by decide +kernel
theorem dX0_init_1 : decode cX0_init 1 = .ok (.invokespecial 3, 3) := by decide +kernel
theorem dX0_init_4 : decode cX0_init 4 = .ok (.return_, 1) := by decide +kernel
theorem dX0_begin_0 : decode cX0_begin 0 = .ok (.aload_n 0, 1) := by decide +kernel
theorem dX0_begin_1 : decode cX0_begin 1 = .ok (.iload_n 1, 1) := by decide +kernel
theorem dX0_begin_2 : decode cX0_begin 2 = .ok (.putfield 9, 3) := by decide +kernel
theorem dX0_begin_5 : decode cX0_begin 5 = .ok (.aload_n 0, 1) := by decide +kernel
theorem dX0_begin_6 : decode cX0_begin 6 = .ok (.iload_n 2, 1) := by decide +kernel
theorem dX0_begin_7 : decode cX0_begin 7 = .ok (.putfield 15, 3) := by decide +kernel
theorem dX0_begin_10 : decode cX0_begin 10 = .ok (.aload_n 0, 1) := by decide +kernel
theorem dX0_begin_11 : decode cX0_begin 11 = .ok (.iconst 0, 1) := by decide +kernel
theorem dX0_begin_12 : decode cX0_begin 12 = .ok (.putfield 18, 3) := by decide +kernel
theorem dX0_begin_15 : decode cX0_begin 15 = .ok (.aload_n 0, 1) := by decide +kernel
theorem dX0_begin_16 : decode cX0_begin 16 = .ok (.iconst (-1), 1) := by decide +kernel
theorem dX0_begin_17 : decode cX0_begin 17 = .ok (.putfield 21, 3) := by decide +kernel
theorem dX0_begin_20 : decode cX0_begin 20 = .ok (.aload_n 0, 1) := by decide +kernel
theorem dX0_begin_21 : decode cX0_begin 21 = .ok (.iconst (-1), 1) := by decide +kernel
theorem dX0_begin_22 : decode cX0_begin 22 = .ok (.putfield 24, 3) := by decide +kernel
theorem dX0_begin_25 : decode cX0_begin 25 = .ok (.return_, 1) := by decide +kernel
theorem dX1_init_0 : decode cX1_init 0 = .ok (.aload_n 0, 1) := by decide +kernel
theorem dX1_init_1 : decode cX1_init 1 = .ok (.invokespecial 3, 3) := by decide +kernel
theorem dX1_init_4 : decode cX1_init 4 = .ok (.aload_n 0, 1) := by decide +kernel
theorem dX1_init_5 : decode cX1_init 5 = .ok (.bipush 101, 2) := by decide +kernel
theorem dX1_init_7 : decode cX1_init 7 = .ok (.newarray .int, 2) := by decide +kernel
theorem dX1_init_9 : decode cX1_init 9 = .ok (.putfield 11, 3) := by decide +kernel
theorem dX1_init_12 : decode cX1_init 12 = .ok (.aload_n 0, 1) := by decide +kernel
theorem dX1_init_13 : decode cX1_init 13 = .ok (.bipush 101, 2) := by decide +kernel
theorem dX1_init_15 : decode cX1_init 15 = .ok (.newarray .int, 2) := by decide +kernel
theorem dX1_init_17 : decode cX1_init 17 = .ok (.putfield 15, 3) := by decide +kernel
theorem dX1_init_20 : decode cX1_init 20 = .ok (.aload_n 0, 1) := by decide +kernel
theorem dX1_init_21 : decode cX1_init 21 = .ok (.bipush 101, 2) := by decide +kernel
theorem dX1_init_23 : decode cX1_init 23 = .ok (.newarray .int, 2) := by decide +kernel
theorem dX1_init_25 : decode cX1_init 25 = .ok (.putfield 18, 3) := by decide +kernel
theorem dX1_init_28 : decode cX1_init 28 = .ok (.aload_n 0, 1) := by decide +kernel
theorem dX1_init_29 : decode cX1_init 29 = .ok (.bipush 101, 2) := by decide +kernel
theorem dX1_init_31 : decode cX1_init 31 = .ok (.newarray .boolean, 2) := by decide +kernel
theorem dX1_init_33 : decode cX1_init 33 = .ok (.putfield 21, 3) := by decide +kernel
theorem dX1_init_36 : decode cX1_init 36 = .ok (.aload_n 0, 1) := by decide +kernel
theorem dX1_init_37 : decode cX1_init 37 = .ok (.bipush 101, 2) := by decide +kernel
theorem dX1_init_39 : decode cX1_init 39 = .ok (.newarray .boolean, 2) := by decide +kernel
theorem dX1_init_41 : decode cX1_init 41 = .ok (.putfield 25, 3) := by decide +kernel
theorem dX1_init_44 : decode cX1_init 44 = .ok (.aload_n 0, 1) := by decide +kernel
theorem dX1_init_45 : decode cX1_init 45 = .ok (.bipush 101, 2) := by decide +kernel
theorem dX1_init_47 : decode cX1_init 47 = .ok (.newarray .int, 2) := by decide +kernel
theorem dX1_init_49 : decode cX1_init 49 = .ok (.putfield 28, 3) := by decide +kernel
theorem dX1_init_52 : decode cX1_init 52 = .ok (.aload_n 0, 1) := by decide +kernel
theorem dX1_init_53 : decode cX1_init 53 = .ok (.bipush 101, 2) := by decide +kernel
theorem dX1_init_55 : decode cX1_init 55 = .ok (.newarray .int, 2) := by decide +kernel
theorem dX1_init_57 : decode cX1_init 57 = .ok (.putfield 31, 3) := by decide +kernel
theorem dX1_init_60 : decode cX1_init 60 = .ok (.aload_n 0, 1) := by decide +kernel
theorem dX1_init_61 : decode cX1_init 61 = .ok (.bipush 101, 2) := by decide +kernel
theorem dX1_init_63 : decode cX1_init 63 = .ok (.newarray .int, 2) := by decide +kernel
theorem dX1_init_65 : decode cX1_init 65 = .ok (.putfield 34, 3) := by decide +kernel
theorem dX1_init_68 : decode cX1_init 68 = .ok (.return_, 1) := by decide +kernel
theorem dX1_isFull_0 : decode cX1_isFull 0 = .ok (.aload_n 0, 1) := by decide +kernel
theorem dX1_isFull_1 : decode cX1_isFull 1 = .ok (.getfield 37, 3) := by decide +kernel
theorem dX1_isFull_4 : decode cX1_isFull 4 = .ok (.bipush 100, 2) := by decide +kernel
theorem dX1_isFull_6 : decode cX1_isFull 6 = .ok (.if_icmp .lt 7, 3) := by decide +kernel
theorem dX1_isFull_9 : decode cX1_isFull 9 = .ok (.iconst 1, 1) := by decide +kernel
theorem dX1_isFull_10 : decode cX1_isFull 10 = .ok (.goto 4, 3) := by decide +kernel
theorem dX1_isFull_13 : decode cX1_isFull 13 = .ok (.iconst 0, 1) := by decide +kernel
theorem dX1_isFull_14 : decode cX1_isFull 14 = .ok (.ireturn, 1) := by decide +kernel
theorem dX1_addReport_0 : decode cX1_addReport 0 = .ok (.aload_n 0, 1) := by decide +kernel
theorem dX1_addReport_1 : decode cX1_addReport 1 = .ok (.invokevirtual 41, 3) := by decide +kernel
theorem dX1_addReport_4 : decode cX1_addReport 4 = .ok (.ifCond .eq 5, 3) := by decide +kernel
theorem dX1_addReport_7 : decode cX1_addReport 7 = .ok (.iconst (-1), 1) := by decide +kernel
theorem dX1_addReport_8 : decode cX1_addReport 8 = .ok (.ireturn, 1) := by decide +kernel
theorem dX1_addReport_9 : decode cX1_addReport 9 = .ok (.aload_n 0, 1) := by decide +kernel
theorem dX1_addReport_10 : decode cX1_addReport 10 = .ok (.dup, 1) := by decide +kernel
theorem dX1_addReport_11 : decode cX1_addReport 11 = .ok (.getfield 37, 3) := by decide +kernel
theorem dX1_addReport_14 : decode cX1_addReport 14 = .ok (.iconst 1, 1) := by decide +kernel
theorem dX1_addReport_15 : decode cX1_addReport 15 = .ok (.iadd, 1) := by decide +kernel
theorem dX1_addReport_16 : decode cX1_addReport 16 = .ok (.putfield 37, 3) := by decide +kernel
theorem dX1_addReport_19 : decode cX1_addReport 19 = .ok (.aload_n 0, 1) := by decide +kernel
theorem dX1_addReport_20 : decode cX1_addReport 20 = .ok (.getfield 15, 3) := by decide +kernel
theorem dX1_addReport_23 : decode cX1_addReport 23 = .ok (.aload_n 0, 1) := by decide +kernel
theorem dX1_addReport_24 : decode cX1_addReport 24 = .ok (.getfield 37, 3) := by decide +kernel
theorem dX1_addReport_27 : decode cX1_addReport 27 = .ok (.iload_n 1, 1) := by decide +kernel
theorem dX1_addReport_28 : decode cX1_addReport 28 = .ok (.iastore, 1) := by decide +kernel
theorem dX1_addReport_29 : decode cX1_addReport 29 = .ok (.aload_n 0, 1) := by decide +kernel
theorem dX1_addReport_30 : decode cX1_addReport 30 = .ok (.getfield 18, 3) := by decide +kernel
theorem dX1_addReport_33 : decode cX1_addReport 33 = .ok (.aload_n 0, 1) := by decide +kernel
theorem dX1_addReport_34 : decode cX1_addReport 34 = .ok (.getfield 37, 3) := by decide +kernel
theorem dX1_addReport_37 : decode cX1_addReport 37 = .ok (.iload_n 2, 1) := by decide +kernel
theorem dX1_addReport_38 : decode cX1_addReport 38 = .ok (.iastore, 1) := by decide +kernel
theorem dX1_addReport_39 : decode cX1_addReport 39 = .ok (.aload_n 0, 1) := by decide +kernel
theorem dX1_addReport_40 : decode cX1_addReport 40 = .ok (.getfield 21, 3) := by decide +kernel
theorem dX1_addReport_43 : decode cX1_addReport 43 = .ok (.aload_n 0, 1) := by decide +kernel
theorem dX1_addReport_44 : decode cX1_addReport 44 = .ok (.getfield 37, 3) := by decide +kernel
theorem dX1_addReport_47 : decode cX1_addReport 47 = .ok (.iload_n 3, 1) := by decide +kernel
theorem dX1_addReport_48 : decode cX1_addReport 48 = .ok (.bastore, 1) := by decide +kernel
theorem dX1_addReport_49 : decode cX1_addReport 49 = .ok (.aload_n 0, 1) := by decide +kernel
theorem dX1_addReport_50 : decode cX1_addReport 50 = .ok (.getfield 28, 3) := by decide +kernel
theorem dX1_addReport_53 : decode cX1_addReport 53 = .ok (.aload_n 0, 1) := by decide +kernel
theorem dX1_addReport_54 : decode cX1_addReport 54 = .ok (.getfield 37, 3) := by decide +kernel
theorem dX1_addReport_57 : decode cX1_addReport 57 = .ok (.iconst 0, 1) := by decide +kernel
theorem dX1_addReport_58 : decode cX1_addReport 58 = .ok (.iastore, 1) := by decide +kernel
theorem dX1_addReport_59 : decode cX1_addReport 59 = .ok (.aload_n 0, 1) := by decide +kernel
theorem dX1_addReport_60 : decode cX1_addReport 60 = .ok (.getfield 37, 3) := by decide +kernel
theorem dX1_addReport_63 : decode cX1_addReport 63 = .ok (.ireturn, 1) := by decide +kernel
theorem dX1_canVoid_0 : decode cX1_canVoid 0 = .ok (.aload_n 0, 1) := by decide +kernel
theorem dX1_canVoid_1 : decode cX1_canVoid 1 = .ok (.invokevirtual 41, 3) := by decide +kernel
theorem dX1_canVoid_4 : decode cX1_canVoid 4 = .ok (.ifCond .ne 38, 3) := by decide +kernel
theorem dX1_canVoid_7 : decode cX1_canVoid 7 = .ok (.iload_n 1, 1) := by decide +kernel
theorem dX1_canVoid_8 : decode cX1_canVoid 8 = .ok (.iconst 1, 1) := by decide +kernel
theorem dX1_canVoid_9 : decode cX1_canVoid 9 = .ok (.if_icmp .lt 33, 3) := by decide +kernel
theorem dX1_canVoid_12 : decode cX1_canVoid 12 = .ok (.iload_n 1, 1) := by decide +kernel
theorem dX1_canVoid_13 : decode cX1_canVoid 13 = .ok (.aload_n 0, 1) := by decide +kernel
theorem dX1_canVoid_14 : decode cX1_canVoid 14 = .ok (.getfield 37, 3) := by decide +kernel
theorem dX1_canVoid_17 : decode cX1_canVoid 17 = .ok (.if_icmp .gt 25, 3) := by decide +kernel
theorem dX1_canVoid_20 : decode cX1_canVoid 20 = .ok (.aload_n 0, 1) := by decide +kernel
theorem dX1_canVoid_21 : decode cX1_canVoid 21 = .ok (.getfield 28, 3) := by decide +kernel
theorem dX1_canVoid_24 : decode cX1_canVoid 24 = .ok (.iload_n 1, 1) := by decide +kernel
theorem dX1_canVoid_25 : decode cX1_canVoid 25 = .ok (.iaload, 1) := by decide +kernel
theorem dX1_canVoid_26 : decode cX1_canVoid 26 = .ok (.ifCond .ne 16, 3) := by decide +kernel
theorem dX1_canVoid_29 : decode cX1_canVoid 29 = .ok (.aload_n 0, 1) := by decide +kernel
theorem dX1_canVoid_30 : decode cX1_canVoid 30 = .ok (.getfield 25, 3) := by decide +kernel
theorem dX1_canVoid_33 : decode cX1_canVoid 33 = .ok (.iload_n 1, 1) := by decide +kernel
theorem dX1_canVoid_34 : decode cX1_canVoid 34 = .ok (.baload, 1) := by decide +kernel
theorem dX1_canVoid_35 : decode cX1_canVoid 35 = .ok (.ifCond .ne 7, 3) := by decide +kernel
theorem dX1_canVoid_38 : decode cX1_canVoid 38 = .ok (.iconst 1, 1) := by decide +kernel
theorem dX1_canVoid_39 : decode cX1_canVoid 39 = .ok (.goto 4, 3) := by decide +kernel
theorem dX1_canVoid_42 : decode cX1_canVoid 42 = .ok (.iconst 0, 1) := by decide +kernel
theorem dX1_canVoid_43 : decode cX1_canVoid 43 = .ok (.ireturn, 1) := by decide +kernel
theorem dX1_knownAt_0 : decode cX1_knownAt 0 = .ok (.iload_n 1, 1) := by decide +kernel
theorem dX1_knownAt_1 : decode cX1_knownAt 1 = .ok (.iconst (-1), 1) := by decide +kernel
theorem dX1_knownAt_2 : decode cX1_knownAt 2 = .ok (.if_icmp .ne 8, 3) := by decide +kernel
theorem dX1_knownAt_5 : decode cX1_knownAt 5 = .ok (.aload_n 0, 1) := by decide +kernel
theorem dX1_knownAt_6 : decode cX1_knownAt 6 = .ok (.getfield 37, 3) := by decide +kernel
theorem dX1_knownAt_9 : decode cX1_knownAt 9 = .ok (.ireturn, 1) := by decide +kernel
theorem dX1_knownAt_10 : decode cX1_knownAt 10 = .ok (.iload_n 1, 1) := by decide +kernel
theorem dX1_knownAt_11 : decode cX1_knownAt 11 = .ok (.ifCond .lt 15, 3) := by decide +kernel
theorem dX1_knownAt_14 : decode cX1_knownAt 14 = .ok (.iload_n 1, 1) := by decide +kernel
theorem dX1_knownAt_15 : decode cX1_knownAt 15 = .ok (.aload_n 0, 1) := by decide +kernel
theorem dX1_knownAt_16 : decode cX1_knownAt 16 = .ok (.getfield 37, 3) := by decide +kernel
theorem dX1_knownAt_19 : decode cX1_knownAt 19 = .ok (.if_icmp .gt 7, 3) := by decide +kernel
theorem dX1_knownAt_22 : decode cX1_knownAt 22 = .ok (.iload_n 1, 1) := by decide +kernel
theorem dX1_knownAt_23 : decode cX1_knownAt 23 = .ok (.goto 4, 3) := by decide +kernel
theorem dX1_knownAt_26 : decode cX1_knownAt 26 = .ok (.iconst (-1), 1) := by decide +kernel
theorem dX1_knownAt_27 : decode cX1_knownAt 27 = .ok (.ireturn, 1) := by decide +kernel
theorem dX2_init_0 : decode cX2_init 0 = .ok (.aload_n 0, 1) := by decide +kernel
theorem dX2_init_1 : decode cX2_init 1 = .ok (.invokespecial 1, 3) := by decide +kernel
theorem dX2_init_4 : decode cX2_init 4 = .ok (.aload_n 0, 1) := by decide +kernel
theorem dX2_init_5 : decode cX2_init 5 = .ok (.sipush 128, 3) := by decide +kernel
theorem dX2_init_8 : decode cX2_init 8 = .ok (.newarray .int, 2) := by decide +kernel
theorem dX2_init_10 : decode cX2_init 10 = .ok (.putfield 9, 3) := by decide +kernel
theorem dX2_init_13 : decode cX2_init 13 = .ok (.aload_n 0, 1) := by decide +kernel
theorem dX2_init_14 : decode cX2_init 14 = .ok (.sipush 128, 3) := by decide +kernel
theorem dX2_init_17 : decode cX2_init 17 = .ok (.newarray .int, 2) := by decide +kernel
theorem dX2_init_19 : decode cX2_init 19 = .ok (.putfield 13, 3) := by decide +kernel
theorem dX2_init_22 : decode cX2_init 22 = .ok (.aload_n 0, 1) := by decide +kernel
theorem dX2_init_23 : decode cX2_init 23 = .ok (.sipush 128, 3) := by decide +kernel
theorem dX2_init_26 : decode cX2_init 26 = .ok (.newarray .int, 2) := by decide +kernel
theorem dX2_init_28 : decode cX2_init 28 = .ok (.putfield 16, 3) := by decide +kernel
theorem dX2_init_31 : decode cX2_init 31 = .ok (.return_, 1) := by decide +kernel
theorem dX3_init_0 : decode cX3_init 0 = .ok (.aload_n 0, 1) := by decide +kernel
theorem dX3_init_1 : decode cX3_init 1 = .ok (.invokespecial 3, 3) := by decide +kernel
theorem dX3_init_4 : decode cX3_init 4 = .ok (.aload_n 0, 1) := by decide +kernel
theorem dX3_init_5 : decode cX3_init 5 = .ok (.bipush 12, 2) := by decide +kernel
theorem dX3_init_7 : decode cX3_init 7 = .ok (.iconst 4, 1) := by decide +kernel
theorem dX3_init_8 : decode cX3_init 8 = .ok (.multianewarray 9 2, 4) := by decide +kernel
theorem dX3_init_12 : decode cX3_init 12 = .ok (.putfield 11, 3) := by decide +kernel
theorem dX3_init_15 : decode cX3_init 15 = .ok (.aload_n 0, 1) := by decide +kernel
theorem dX3_init_16 : decode cX3_init 16 = .ok (.bipush 12, 2) := by decide +kernel
theorem dX3_init_18 : decode cX3_init 18 = .ok (.newarray .boolean, 2) := by decide +kernel
theorem dX3_init_20 : decode cX3_init 20 = .ok (.putfield 16, 3) := by decide +kernel
theorem dX3_init_23 : decode cX3_init 23 = .ok (.return_, 1) := by decide +kernel
theorem dX3_lay_0 : decode cX3_lay 0 = .ok (.aload_n 0, 1) := by decide +kernel
theorem dX3_lay_1 : decode cX3_lay 1 = .ok (.ldc2_w 20, 3) := by decide +kernel
theorem dX3_lay_4 : decode cX3_lay 4 = .ok (.aload_n 1, 1) := by decide +kernel
theorem dX3_lay_5 : decode cX3_lay 5 = .ok (.getfield 22, 3) := by decide +kernel
theorem dX3_lay_8 : decode cX3_lay 8 = .ok (.i2l, 1) := by decide +kernel
theorem dX3_lay_9 : decode cX3_lay 9 = .ok (.lmul, 1) := by decide +kernel
theorem dX3_lay_10 : decode cX3_lay 10 = .ok (.putfield 28, 3) := by decide +kernel
theorem dX3_lay_13 : decode cX3_lay 13 = .ok (.aload_n 0, 1) := by decide +kernel
theorem dX3_lay_14 : decode cX3_lay 14 = .ok (.ldc2_w 20, 3) := by decide +kernel
theorem dX3_lay_17 : decode cX3_lay 17 = .ok (.aload_n 1, 1) := by decide +kernel
theorem dX3_lay_18 : decode cX3_lay 18 = .ok (.getfield 32, 3) := by decide +kernel
theorem dX3_lay_21 : decode cX3_lay 21 = .ok (.i2l, 1) := by decide +kernel
theorem dX3_lay_22 : decode cX3_lay 22 = .ok (.lmul, 1) := by decide +kernel
theorem dX3_lay_23 : decode cX3_lay 23 = .ok (.putfield 35, 3) := by decide +kernel
theorem dX3_lay_26 : decode cX3_lay 26 = .ok (.aload_n 0, 1) := by decide +kernel
theorem dX3_lay_27 : decode cX3_lay 27 = .ok (.iload_n 2, 1) := by decide +kernel
theorem dX3_lay_28 : decode cX3_lay 28 = .ok (.aload_n 1, 1) := by decide +kernel
theorem dX3_lay_29 : decode cX3_lay 29 = .ok (.getfield 22, 3) := by decide +kernel
theorem dX3_lay_32 : decode cX3_lay 32 = .ok (.isub, 1) := by decide +kernel
theorem dX3_lay_33 : decode cX3_lay 33 = .ok (.i2l, 1) := by decide +kernel
theorem dX3_lay_34 : decode cX3_lay 34 = .ok (.putfield 38, 3) := by decide +kernel
theorem dX3_lay_37 : decode cX3_lay 37 = .ok (.aload_n 0, 1) := by decide +kernel
theorem dX3_lay_38 : decode cX3_lay 38 = .ok (.iload_n 3, 1) := by decide +kernel
theorem dX3_lay_39 : decode cX3_lay 39 = .ok (.aload_n 1, 1) := by decide +kernel
theorem dX3_lay_40 : decode cX3_lay 40 = .ok (.getfield 32, 3) := by decide +kernel
theorem dX3_lay_43 : decode cX3_lay 43 = .ok (.isub, 1) := by decide +kernel
theorem dX3_lay_44 : decode cX3_lay 44 = .ok (.i2l, 1) := by decide +kernel
theorem dX3_lay_45 : decode cX3_lay 45 = .ok (.putfield 41, 3) := by decide +kernel
theorem dX3_lay_48 : decode cX3_lay 48 = .ok (.aload_n 0, 1) := by decide +kernel
theorem dX3_lay_49 : decode cX3_lay 49 = .ok (.aload_n 0, 1) := by decide +kernel
theorem dX3_lay_50 : decode cX3_lay 50 = .ok (.getfield 38, 3) := by decide +kernel
theorem dX3_lay_53 : decode cX3_lay 53 = .ok (.aload_n 0, 1) := by decide +kernel
theorem dX3_lay_54 : decode cX3_lay 54 = .ok (.getfield 38, 3) := by decide +kernel
theorem dX3_lay_57 : decode cX3_lay 57 = .ok (.lmul, 1) := by decide +kernel
theorem dX3_lay_58 : decode cX3_lay 58 = .ok (.aload_n 0, 1) := by decide +kernel
theorem dX3_lay_59 : decode cX3_lay 59 = .ok (.getfield 41, 3) := by decide +kernel
theorem dX3_lay_62 : decode cX3_lay 62 = .ok (.aload_n 0, 1) := by decide +kernel
theorem dX3_lay_63 : decode cX3_lay 63 = .ok (.getfield 41, 3) := by decide +kernel
theorem dX3_lay_66 : decode cX3_lay 66 = .ok (.lmul, 1) := by decide +kernel
theorem dX3_lay_67 : decode cX3_lay 67 = .ok (.ladd, 1) := by decide +kernel
theorem dX3_lay_68 : decode cX3_lay 68 = .ok (.putfield 44, 3) := by decide +kernel
theorem dX3_lay_71 : decode cX3_lay 71 = .ok (.aload_n 0, 1) := by decide +kernel
theorem dX3_lay_72 : decode cX3_lay 72 = .ok (.iload 4, 2) := by decide +kernel
theorem dX3_lay_74 : decode cX3_lay 74 = .ok (.putfield 47, 3) := by decide +kernel
theorem dX3_lay_77 : decode cX3_lay 77 = .ok (.iconst 0, 1) := by decide +kernel
theorem dX3_lay_78 : decode cX3_lay 78 = .ok (.istore 5, 2) := by decide +kernel
theorem dX3_lay_80 : decode cX3_lay 80 = .ok (.iload 5, 2) := by decide +kernel
theorem dX3_lay_82 : decode cX3_lay 82 = .ok (.bipush 12, 2) := by decide +kernel
theorem dX3_lay_84 : decode cX3_lay 84 = .ok (.if_icmp .ge 139, 3) := by decide +kernel
theorem dX3_lay_87 : decode cX3_lay 87 = .ok (.aload_n 0, 1) := by decide +kernel
theorem dX3_lay_88 : decode cX3_lay 88 = .ok (.getfield 16, 3) := by decide +kernel
theorem dX3_lay_91 : decode cX3_lay 91 = .ok (.iload 5, 2) := by decide +kernel
theorem dX3_lay_93 : decode cX3_lay 93 = .ok (.aload_n 1, 1) := by decide +kernel
theorem dX3_lay_94 : decode cX3_lay 94 = .ok (.getfield 50, 3) := by decide +kernel
theorem dX3_lay_97 : decode cX3_lay 97 = .ok (.iload 5, 2) := by decide +kernel
theorem dX3_lay_99 : decode cX3_lay 99 = .ok (.baload, 1) := by decide +kernel
theorem dX3_lay_100 : decode cX3_lay 100 = .ok (.bastore, 1) := by decide +kernel
theorem dX3_lay_101 : decode cX3_lay 101 = .ok (.aload_n 1, 1) := by decide +kernel
theorem dX3_lay_102 : decode cX3_lay 102 = .ok (.getfield 53, 3) := by decide +kernel
theorem dX3_lay_105 : decode cX3_lay 105 = .ok (.iload 5, 2) := by decide +kernel
theorem dX3_lay_107 : decode cX3_lay 107 = .ok (.baload, 1) := by decide +kernel
theorem dX3_lay_108 : decode cX3_lay 108 = .ok (.ifCond .eq 8, 3) := by decide +kernel
theorem dX3_lay_111 : decode cX3_lay 111 = .ok (.iload 4, 2) := by decide +kernel
theorem dX3_lay_113 : decode cX3_lay 113 = .ok (.goto 4, 3) := by decide +kernel
theorem dX3_lay_116 : decode cX3_lay 116 = .ok (.iconst 0, 1) := by decide +kernel
theorem dX3_lay_117 : decode cX3_lay 117 = .ok (.istore 6, 2) := by decide +kernel
theorem dX3_lay_119 : decode cX3_lay 119 = .ok (.aload_n 0, 1) := by decide +kernel
theorem dX3_lay_120 : decode cX3_lay 120 = .ok (.getfield 11, 3) := by decide +kernel
theorem dX3_lay_123 : decode cX3_lay 123 = .ok (.iload 5, 2) := by decide +kernel
theorem dX3_lay_125 : decode cX3_lay 125 = .ok (.aaload, 1) := by decide +kernel
theorem dX3_lay_126 : decode cX3_lay 126 = .ok (.iconst 0, 1) := by decide +kernel
theorem dX3_lay_127 : decode cX3_lay 127 = .ok (.ldc2_w 20, 3) := by decide +kernel
theorem dX3_lay_130 : decode cX3_lay 130 = .ok (.aload_n 1, 1) := by decide +kernel
theorem dX3_lay_131 : decode cX3_lay 131 = .ok (.getfield 56, 3) := by decide +kernel
theorem dX3_lay_134 : decode cX3_lay 134 = .ok (.iload 5, 2) := by decide +kernel
theorem dX3_lay_136 : decode cX3_lay 136 = .ok (.aaload, 1) := by decide +kernel
theorem dX3_lay_137 : decode cX3_lay 137 = .ok (.iconst 0, 1) := by decide +kernel
theorem dX3_lay_138 : decode cX3_lay 138 = .ok (.iaload, 1) := by decide +kernel
theorem dX3_lay_139 : decode cX3_lay 139 = .ok (.i2l, 1) := by decide +kernel
theorem dX3_lay_140 : decode cX3_lay 140 = .ok (.lmul, 1) := by decide +kernel
theorem dX3_lay_141 : decode cX3_lay 141 = .ok (.lastore, 1) := by decide +kernel
theorem dX3_lay_142 : decode cX3_lay 142 = .ok (.aload_n 0, 1) := by decide +kernel
theorem dX3_lay_143 : decode cX3_lay 143 = .ok (.getfield 11, 3) := by decide +kernel
theorem dX3_lay_146 : decode cX3_lay 146 = .ok (.iload 5, 2) := by decide +kernel
theorem dX3_lay_148 : decode cX3_lay 148 = .ok (.aaload, 1) := by decide +kernel
theorem dX3_lay_149 : decode cX3_lay 149 = .ok (.iconst 1, 1) := by decide +kernel
theorem dX3_lay_150 : decode cX3_lay 150 = .ok (.ldc2_w 20, 3) := by decide +kernel
theorem dX3_lay_153 : decode cX3_lay 153 = .ok (.aload_n 1, 1) := by decide +kernel
theorem dX3_lay_154 : decode cX3_lay 154 = .ok (.getfield 56, 3) := by decide +kernel
theorem dX3_lay_157 : decode cX3_lay 157 = .ok (.iload 5, 2) := by decide +kernel
theorem dX3_lay_159 : decode cX3_lay 159 = .ok (.aaload, 1) := by decide +kernel
theorem dX3_lay_160 : decode cX3_lay 160 = .ok (.iconst 1, 1) := by decide +kernel
theorem dX3_lay_161 : decode cX3_lay 161 = .ok (.iaload, 1) := by decide +kernel
theorem dX3_lay_162 : decode cX3_lay 162 = .ok (.iload 6, 2) := by decide +kernel
theorem dX3_lay_164 : decode cX3_lay 164 = .ok (.isub, 1) := by decide +kernel
theorem dX3_lay_165 : decode cX3_lay 165 = .ok (.i2l, 1) := by decide +kernel
theorem dX3_lay_166 : decode cX3_lay 166 = .ok (.lmul, 1) := by decide +kernel
theorem dX3_lay_167 : decode cX3_lay 167 = .ok (.lastore, 1) := by decide +kernel
theorem dX3_lay_168 : decode cX3_lay 168 = .ok (.aload_n 0, 1) := by decide +kernel
theorem dX3_lay_169 : decode cX3_lay 169 = .ok (.getfield 11, 3) := by decide +kernel
theorem dX3_lay_172 : decode cX3_lay 172 = .ok (.iload 5, 2) := by decide +kernel
theorem dX3_lay_174 : decode cX3_lay 174 = .ok (.aaload, 1) := by decide +kernel
theorem dX3_lay_175 : decode cX3_lay 175 = .ok (.iconst 2, 1) := by decide +kernel
theorem dX3_lay_176 : decode cX3_lay 176 = .ok (.ldc2_w 20, 3) := by decide +kernel
theorem dX3_lay_179 : decode cX3_lay 179 = .ok (.aload_n 1, 1) := by decide +kernel
theorem dX3_lay_180 : decode cX3_lay 180 = .ok (.getfield 56, 3) := by decide +kernel
theorem dX3_lay_183 : decode cX3_lay 183 = .ok (.iload 5, 2) := by decide +kernel
theorem dX3_lay_185 : decode cX3_lay 185 = .ok (.aaload, 1) := by decide +kernel
theorem dX3_lay_186 : decode cX3_lay 186 = .ok (.iconst 2, 1) := by decide +kernel
theorem dX3_lay_187 : decode cX3_lay 187 = .ok (.iaload, 1) := by decide +kernel
theorem dX3_lay_188 : decode cX3_lay 188 = .ok (.i2l, 1) := by decide +kernel
theorem dX3_lay_189 : decode cX3_lay 189 = .ok (.lmul, 1) := by decide +kernel
theorem dX3_lay_190 : decode cX3_lay 190 = .ok (.lastore, 1) := by decide +kernel
theorem dX3_lay_191 : decode cX3_lay 191 = .ok (.aload_n 0, 1) := by decide +kernel
theorem dX3_lay_192 : decode cX3_lay 192 = .ok (.getfield 11, 3) := by decide +kernel
theorem dX3_lay_195 : decode cX3_lay 195 = .ok (.iload 5, 2) := by decide +kernel
theorem dX3_lay_197 : decode cX3_lay 197 = .ok (.aaload, 1) := by decide +kernel
theorem dX3_lay_198 : decode cX3_lay 198 = .ok (.iconst 3, 1) := by decide +kernel
theorem dX3_lay_199 : decode cX3_lay 199 = .ok (.ldc2_w 20, 3) := by decide +kernel
theorem dX3_lay_202 : decode cX3_lay 202 = .ok (.aload_n 1, 1) := by decide +kernel
theorem dX3_lay_203 : decode cX3_lay 203 = .ok (.getfield 56, 3) := by decide +kernel
theorem dX3_lay_206 : decode cX3_lay 206 = .ok (.iload 5, 2) := by decide +kernel
theorem dX3_lay_208 : decode cX3_lay 208 = .ok (.aaload, 1) := by decide +kernel
theorem dX3_lay_209 : decode cX3_lay 209 = .ok (.iconst 3, 1) := by decide +kernel
theorem dX3_lay_210 : decode cX3_lay 210 = .ok (.iaload, 1) := by decide +kernel
theorem dX3_lay_211 : decode cX3_lay 211 = .ok (.iload 6, 2) := by decide +kernel
theorem dX3_lay_213 : decode cX3_lay 213 = .ok (.isub, 1) := by decide +kernel
theorem dX3_lay_214 : decode cX3_lay 214 = .ok (.i2l, 1) := by decide +kernel
theorem dX3_lay_215 : decode cX3_lay 215 = .ok (.lmul, 1) := by decide +kernel
theorem dX3_lay_216 : decode cX3_lay 216 = .ok (.lastore, 1) := by decide +kernel
theorem dX3_lay_217 : decode cX3_lay 217 = .ok (.iinc 5 1, 3) := by decide +kernel
theorem dX3_lay_220 : decode cX3_lay 220 = .ok (.goto (-140), 3) := by decide +kernel
theorem dX3_lay_223 : decode cX3_lay 223 = .ok (.return_, 1) := by decide +kernel
theorem dX3_twiceAlong_0 : decode cX3_twiceAlong 0 = .ok (.lload_n 1, 1) := by decide +kernel
theorem dX3_twiceAlong_1 : decode cX3_twiceAlong 1 = .ok (.aload_n 0, 1) := by decide +kernel
theorem dX3_twiceAlong_2 : decode cX3_twiceAlong 2 = .ok (.getfield 28, 3) := by decide +kernel
theorem dX3_twiceAlong_5 : decode cX3_twiceAlong 5 = .ok (.lsub, 1) := by decide +kernel
theorem dX3_twiceAlong_6 : decode cX3_twiceAlong 6 = .ok (.aload_n 0, 1) := by decide +kernel
theorem dX3_twiceAlong_7 : decode cX3_twiceAlong 7 = .ok (.getfield 38, 3) := by decide +kernel
theorem dX3_twiceAlong_10 : decode cX3_twiceAlong 10 = .ok (.lmul, 1) := by decide +kernel
theorem dX3_twiceAlong_11 : decode cX3_twiceAlong 11 = .ok (.lload_n 3, 1) := by decide +kernel
theorem dX3_twiceAlong_12 : decode cX3_twiceAlong 12 = .ok (.aload_n 0, 1) := by decide +kernel
theorem dX3_twiceAlong_13 : decode cX3_twiceAlong 13 = .ok (.getfield 35, 3) := by decide +kernel
theorem dX3_twiceAlong_16 : decode cX3_twiceAlong 16 = .ok (.lsub, 1) := by decide +kernel
theorem dX3_twiceAlong_17 : decode cX3_twiceAlong 17 = .ok (.aload_n 0, 1) := by decide +kernel
theorem dX3_twiceAlong_18 : decode cX3_twiceAlong 18 = .ok (.getfield 41, 3) := by decide +kernel
theorem dX3_twiceAlong_21 : decode cX3_twiceAlong 21 = .ok (.lmul, 1) := by decide +kernel
theorem dX3_twiceAlong_22 : decode cX3_twiceAlong 22 = .ok (.ladd, 1) := by decide +kernel
theorem dX3_twiceAlong_23 : decode cX3_twiceAlong 23 = .ok (.lreturn, 1) := by decide +kernel
theorem dX3_twiceOff_0 : decode cX3_twiceOff 0 = .ok (.lload_n 3, 1) := by decide +kernel
theorem dX3_twiceOff_1 : decode cX3_twiceOff 1 = .ok (.aload_n 0, 1) := by decide +kernel
theorem dX3_twiceOff_2 : decode cX3_twiceOff 2 = .ok (.getfield 35, 3) := by decide +kernel
theorem dX3_twiceOff_5 : decode cX3_twiceOff 5 = .ok (.lsub, 1) := by decide +kernel
theorem dX3_twiceOff_6 : decode cX3_twiceOff 6 = .ok (.aload_n 0, 1) := by decide +kernel
theorem dX3_twiceOff_7 : decode cX3_twiceOff 7 = .ok (.getfield 38, 3) := by decide +kernel
theorem dX3_twiceOff_10 : decode cX3_twiceOff 10 = .ok (.lmul, 1) := by decide +kernel
theorem dX3_twiceOff_11 : decode cX3_twiceOff 11 = .ok (.lload_n 1, 1) := by decide +kernel
theorem dX3_twiceOff_12 : decode cX3_twiceOff 12 = .ok (.aload_n 0, 1) := by decide +kernel
theorem dX3_twiceOff_13 : decode cX3_twiceOff 13 = .ok (.getfield 28, 3) := by decide +kernel
theorem dX3_twiceOff_16 : decode cX3_twiceOff 16 = .ok (.lsub, 1) := by decide +kernel
theorem dX3_twiceOff_17 : decode cX3_twiceOff 17 = .ok (.aload_n 0, 1) := by decide +kernel
theorem dX3_twiceOff_18 : decode cX3_twiceOff 18 = .ok (.getfield 41, 3) := by decide +kernel
theorem dX3_twiceOff_21 : decode cX3_twiceOff 21 = .ok (.lmul, 1) := by decide +kernel
theorem dX3_twiceOff_22 : decode cX3_twiceOff 22 = .ok (.lsub, 1) := by decide +kernel
theorem dX3_twiceOff_23 : decode cX3_twiceOff 23 = .ok (.lreturn, 1) := by decide +kernel
theorem dX3_mirroredX_0 : decode cX3_mirroredX 0 = .ok (.aload_n 0, 1) := by decide +kernel
theorem dX3_mirroredX_1 : decode cX3_mirroredX 1 = .ok (.getfield 44, 3) := by decide +kernel
theorem dX3_mirroredX_4 : decode cX3_mirroredX 4 = .ok (.iload_n 1, 1) := by decide +kernel
theorem dX3_mirroredX_5 : decode cX3_mirroredX 5 = .ok (.i2l, 1) := by decide +kernel
theorem dX3_mirroredX_6 : decode cX3_mirroredX 6 = .ok (.lmul, 1) := by decide +kernel
theorem dX3_mirroredX_7 : decode cX3_mirroredX 7 = .ok (.aload_n 0, 1) := by decide +kernel
theorem dX3_mirroredX_8 : decode cX3_mirroredX 8 = .ok (.ldc2_w 20, 3) := by decide +kernel
theorem dX3_mirroredX_11 : decode cX3_mirroredX 11 = .ok (.iload_n 1, 1) := by decide +kernel
theorem dX3_mirroredX_12 : decode cX3_mirroredX 12 = .ok (.i2l, 1) := by decide +kernel
theorem dX3_mirroredX_13 : decode cX3_mirroredX 13 = .ok (.lmul, 1) := by decide +kernel
theorem dX3_mirroredX_14 : decode cX3_mirroredX 14 = .ok (.ldc2_w 20, 3) := by decide +kernel
theorem dX3_mirroredX_17 : decode cX3_mirroredX 17 = .ok (.iload_n 2, 1) := by decide +kernel
theorem dX3_mirroredX_18 : decode cX3_mirroredX 18 = .ok (.i2l, 1) := by decide +kernel
theorem dX3_mirroredX_19 : decode cX3_mirroredX 19 = .ok (.lmul, 1) := by decide +kernel
theorem dX3_mirroredX_20 : decode cX3_mirroredX 20 = .ok (.invokevirtual 60, 3) := by decide +kernel
theorem dX3_mirroredX_23 : decode cX3_mirroredX 23 = .ok (.aload_n 0, 1) := by decide +kernel
theorem dX3_mirroredX_24 : decode cX3_mirroredX 24 = .ok (.getfield 41, 3) := by decide +kernel
theorem dX3_mirroredX_27 : decode cX3_mirroredX 27 = .ok (.lmul, 1) := by decide +kernel
theorem dX3_mirroredX_28 : decode cX3_mirroredX 28 = .ok (.ladd, 1) := by decide +kernel
theorem dX3_mirroredX_29 : decode cX3_mirroredX 29 = .ok (.lreturn, 1) := by decide +kernel
theorem dX3_mirroredY_0 : decode cX3_mirroredY 0 = .ok (.aload_n 0, 1) := by decide +kernel
theorem dX3_mirroredY_1 : decode cX3_mirroredY 1 = .ok (.getfield 44, 3) := by decide +kernel
theorem dX3_mirroredY_4 : decode cX3_mirroredY 4 = .ok (.iload_n 2, 1) := by decide +kernel
theorem dX3_mirroredY_5 : decode cX3_mirroredY 5 = .ok (.i2l, 1) := by decide +kernel
theorem dX3_mirroredY_6 : decode cX3_mirroredY 6 = .ok (.lmul, 1) := by decide +kernel
theorem dX3_mirroredY_7 : decode cX3_mirroredY 7 = .ok (.aload_n 0, 1) := by decide +kernel
theorem dX3_mirroredY_8 : decode cX3_mirroredY 8 = .ok (.ldc2_w 20, 3) := by decide +kernel
theorem dX3_mirroredY_11 : decode cX3_mirroredY 11 = .ok (.iload_n 1, 1) := by decide +kernel
theorem dX3_mirroredY_12 : decode cX3_mirroredY 12 = .ok (.i2l, 1) := by decide +kernel
theorem dX3_mirroredY_13 : decode cX3_mirroredY 13 = .ok (.lmul, 1) := by decide +kernel
theorem dX3_mirroredY_14 : decode cX3_mirroredY 14 = .ok (.ldc2_w 20, 3) := by decide +kernel
theorem dX3_mirroredY_17 : decode cX3_mirroredY 17 = .ok (.iload_n 2, 1) := by decide +kernel
theorem dX3_mirroredY_18 : decode cX3_mirroredY 18 = .ok (.i2l, 1) := by decide +kernel
theorem dX3_mirroredY_19 : decode cX3_mirroredY 19 = .ok (.lmul, 1) := by decide +kernel
theorem dX3_mirroredY_20 : decode cX3_mirroredY 20 = .ok (.invokevirtual 60, 3) := by decide +kernel
theorem dX3_mirroredY_23 : decode cX3_mirroredY 23 = .ok (.aload_n 0, 1) := by decide +kernel
theorem dX3_mirroredY_24 : decode cX3_mirroredY 24 = .ok (.getfield 38, 3) := by decide +kernel
theorem dX3_mirroredY_27 : decode cX3_mirroredY 27 = .ok (.lmul, 1) := by decide +kernel
theorem dX3_mirroredY_28 : decode cX3_mirroredY 28 = .ok (.lsub, 1) := by decide +kernel
theorem dX3_mirroredY_29 : decode cX3_mirroredY 29 = .ok (.lreturn, 1) := by decide +kernel
theorem dX4_init_0 : decode cX4_init 0 = .ok (.aload_n 0, 1) := by decide +kernel
theorem dX4_init_1 : decode cX4_init 1 = .ok (.invokespecial 3, 3) := by decide +kernel
theorem dX4_init_4 : decode cX4_init 4 = .ok (.return_, 1) := by decide +kernel
theorem dX4_clear_0 : decode cX4_clear 0 = .ok (.aload_n 0, 1) := by decide +kernel
theorem dX4_clear_1 : decode cX4_clear 1 = .ok (.iconst 0, 1) := by decide +kernel
theorem dX4_clear_2 : decode cX4_clear 2 = .ok (.putfield 9, 3) := by decide +kernel
theorem dX4_clear_5 : decode cX4_clear 5 = .ok (.aload_n 0, 1) := by decide +kernel
theorem dX4_clear_6 : decode cX4_clear 6 = .ok (.iconst 0, 1) := by decide +kernel
theorem dX4_clear_7 : decode cX4_clear 7 = .ok (.putfield 15, 3) := by decide +kernel
theorem dX4_clear_10 : decode cX4_clear 10 = .ok (.return_, 1) := by decide +kernel
theorem dX4_lay_0 : decode cX4_lay 0 = .ok (.aload_n 0, 1) := by decide +kernel
theorem dX4_lay_1 : decode cX4_lay 1 = .ok (.iload_n 1, 1) := by decide +kernel
theorem dX4_lay_2 : decode cX4_lay 2 = .ok (.putfield 9, 3) := by decide +kernel
theorem dX4_lay_5 : decode cX4_lay 5 = .ok (.aload_n 0, 1) := by decide +kernel
theorem dX4_lay_6 : decode cX4_lay 6 = .ok (.iload_n 2, 1) := by decide +kernel
theorem dX4_lay_7 : decode cX4_lay 7 = .ok (.putfield 18, 3) := by decide +kernel
theorem dX4_lay_10 : decode cX4_lay 10 = .ok (.aload_n 0, 1) := by decide +kernel
theorem dX4_lay_11 : decode cX4_lay 11 = .ok (.iload_n 3, 1) := by decide +kernel
theorem dX4_lay_12 : decode cX4_lay 12 = .ok (.putfield 21, 3) := by decide +kernel
theorem dX4_lay_15 : decode cX4_lay 15 = .ok (.aload_n 0, 1) := by decide +kernel
theorem dX4_lay_16 : decode cX4_lay 16 = .ok (.iload 4, 2) := by decide +kernel
theorem dX4_lay_18 : decode cX4_lay 18 = .ok (.putfield 15, 3) := by decide +kernel
theorem dX4_lay_21 : decode cX4_lay 21 = .ok (.aload_n 0, 1) := by decide +kernel
theorem dX4_lay_22 : decode cX4_lay 22 = .ok (.iload 5, 2) := by decide +kernel
theorem dX4_lay_24 : decode cX4_lay 24 = .ok (.putfield 24, 3) := by decide +kernel
theorem dX4_lay_27 : decode cX4_lay 27 = .ok (.return_, 1) := by decide +kernel
theorem dX4_settings_0 : decode cX4_settings 0 = .ok (.aload_n 0, 1) := by decide +kernel
theorem dX4_settings_1 : decode cX4_settings 1 = .ok (.getfield 9, 3) := by decide +kernel
theorem dX4_settings_4 : decode cX4_settings 4 = .ok (.aload_n 0, 1) := by decide +kernel
theorem dX4_settings_5 : decode cX4_settings 5 = .ok (.getfield 15, 3) := by decide +kernel
theorem dX4_settings_8 : decode cX4_settings 8 = .ok (.imul, 1) := by decide +kernel
theorem dX4_settings_9 : decode cX4_settings 9 = .ok (.ireturn, 1) := by decide +kernel
theorem dX4_canBe_0 : decode cX4_canBe 0 = .ok (.iconst 0, 1) := by decide +kernel
theorem dX4_canBe_1 : decode cX4_canBe 1 = .ok (.istore_n 2, 1) := by decide +kernel
theorem dX4_canBe_2 : decode cX4_canBe 2 = .ok (.iload_n 2, 1) := by decide +kernel
theorem dX4_canBe_3 : decode cX4_canBe 3 = .ok (.aload_n 0, 1) := by decide +kernel
theorem dX4_canBe_4 : decode cX4_canBe 4 = .ok (.getfield 9, 3) := by decide +kernel
theorem dX4_canBe_7 : decode cX4_canBe 7 = .ok (.if_icmp .ge 47, 3) := by decide +kernel
theorem dX4_canBe_10 : decode cX4_canBe 10 = .ok (.aload_n 1, 1) := by decide +kernel
theorem dX4_canBe_11 : decode cX4_canBe 11 = .ok (.getfield 27, 3) := by decide +kernel
theorem dX4_canBe_14 : decode cX4_canBe 14 = .ok (.aload_n 1, 1) := by decide +kernel
theorem dX4_canBe_15 : decode cX4_canBe 15 = .ok (.getfield 32, 3) := by decide +kernel
theorem dX4_canBe_18 : decode cX4_canBe 18 = .ok (.aload_n 1, 1) := by decide +kernel
theorem dX4_canBe_19 : decode cX4_canBe 19 = .ok (.getfield 35, 3) := by decide +kernel
theorem dX4_canBe_22 : decode cX4_canBe 22 = .ok (.iload_n 2, 1) := by decide +kernel
theorem dX4_canBe_23 : decode cX4_canBe 23 = .ok (.aload_n 0, 1) := by decide +kernel
theorem dX4_canBe_24 : decode cX4_canBe 24 = .ok (.getfield 18, 3) := by decide +kernel
theorem dX4_canBe_27 : decode cX4_canBe 27 = .ok (.imul, 1) := by decide +kernel
theorem dX4_canBe_28 : decode cX4_canBe 28 = .ok (.iadd, 1) := by decide +kernel
theorem dX4_canBe_29 : decode cX4_canBe 29 = .ok (.aload_n 1, 1) := by decide +kernel
theorem dX4_canBe_30 : decode cX4_canBe 30 = .ok (.getfield 38, 3) := by decide +kernel
theorem dX4_canBe_33 : decode cX4_canBe 33 = .ok (.iload_n 2, 1) := by decide +kernel
theorem dX4_canBe_34 : decode cX4_canBe 34 = .ok (.aload_n 0, 1) := by decide +kernel
theorem dX4_canBe_35 : decode cX4_canBe 35 = .ok (.getfield 21, 3) := by decide +kernel
theorem dX4_canBe_38 : decode cX4_canBe 38 = .ok (.imul, 1) := by decide +kernel
theorem dX4_canBe_39 : decode cX4_canBe 39 = .ok (.iadd, 1) := by decide +kernel
theorem dX4_canBe_40 : decode cX4_canBe 40 = .ok (.invokestatic 41, 3) := by decide +kernel
theorem dX4_canBe_43 : decode cX4_canBe 43 = .ok (.ifCond .ne 5, 3) := by decide +kernel
theorem dX4_canBe_46 : decode cX4_canBe 46 = .ok (.iconst 0, 1) := by decide +kernel
theorem dX4_canBe_47 : decode cX4_canBe 47 = .ok (.ireturn, 1) := by decide +kernel
theorem dX4_canBe_48 : decode cX4_canBe 48 = .ok (.iinc 2 1, 3) := by decide +kernel
theorem dX4_canBe_51 : decode cX4_canBe 51 = .ok (.goto (-49), 3) := by decide +kernel
theorem dX4_canBe_54 : decode cX4_canBe 54 = .ok (.aload_n 0, 1) := by decide +kernel
theorem dX4_canBe_55 : decode cX4_canBe 55 = .ok (.getfield 9, 3) := by decide +kernel
theorem dX4_canBe_58 : decode cX4_canBe 58 = .ok (.ifCond .le 35, 3) := by decide +kernel
theorem dX4_canBe_61 : decode cX4_canBe 61 = .ok (.aload_n 0, 1) := by decide +kernel
theorem dX4_canBe_62 : decode cX4_canBe 62 = .ok (.getfield 15, 3) := by decide +kernel
theorem dX4_canBe_65 : decode cX4_canBe 65 = .ok (.ifCond .le 28, 3) := by decide +kernel
theorem dX4_canBe_68 : decode cX4_canBe 68 = .ok (.aload_n 1, 1) := by decide +kernel
theorem dX4_canBe_69 : decode cX4_canBe 69 = .ok (.getfield 45, 3) := by decide +kernel
theorem dX4_canBe_72 : decode cX4_canBe 72 = .ok (.aload_n 0, 1) := by decide +kernel
theorem dX4_canBe_73 : decode cX4_canBe 73 = .ok (.getfield 15, 3) := by decide +kernel
theorem dX4_canBe_76 : decode cX4_canBe 76 = .ok (.iconst 1, 1) := by decide +kernel
theorem dX4_canBe_77 : decode cX4_canBe 77 = .ok (.isub, 1) := by decide +kernel
theorem dX4_canBe_78 : decode cX4_canBe 78 = .ok (.aload_n 0, 1) := by decide +kernel
theorem dX4_canBe_79 : decode cX4_canBe 79 = .ok (.getfield 24, 3) := by decide +kernel
theorem dX4_canBe_82 : decode cX4_canBe 82 = .ok (.imul, 1) := by decide +kernel
theorem dX4_canBe_83 : decode cX4_canBe 83 = .ok (.iadd, 1) := by decide +kernel
theorem dX4_canBe_84 : decode cX4_canBe 84 = .ok (.bipush 60, 2) := by decide +kernel
theorem dX4_canBe_86 : decode cX4_canBe 86 = .ok (.if_icmp .gt 7, 3) := by decide +kernel
theorem dX4_canBe_89 : decode cX4_canBe 89 = .ok (.iconst 1, 1) := by decide +kernel
theorem dX4_canBe_90 : decode cX4_canBe 90 = .ok (.goto 4, 3) := by decide +kernel
theorem dX4_canBe_93 : decode cX4_canBe 93 = .ok (.iconst 0, 1) := by decide +kernel
theorem dX4_canBe_94 : decode cX4_canBe 94 = .ok (.ireturn, 1) := by decide +kernel
theorem dX5_init_0 : decode cX5_init 0 = .ok (.aload_n 0, 1) := by decide +kernel
theorem dX5_init_1 : decode cX5_init 1 = .ok (.invokespecial 3, 3) := by decide +kernel
theorem dX5_init_4 : decode cX5_init 4 = .ok (.aload_n 0, 1) := by decide +kernel
theorem dX5_init_5 : decode cX5_init 5 = .ok (.sipush 1000, 3) := by decide +kernel
theorem dX5_init_8 : decode cX5_init 8 = .ok (.newarray .int, 2) := by decide +kernel
theorem dX5_init_10 : decode cX5_init 10 = .ok (.putfield 11, 3) := by decide +kernel
theorem dX5_init_13 : decode cX5_init 13 = .ok (.aload_n 0, 1) := by decide +kernel
theorem dX5_init_14 : decode cX5_init 14 = .ok (.sipush 1001, 3) := by decide +kernel
theorem dX5_init_17 : decode cX5_init 17 = .ok (.newarray .boolean, 2) := by decide +kernel
theorem dX5_init_19 : decode cX5_init 19 = .ok (.putfield 15, 3) := by decide +kernel
theorem dX5_init_22 : decode cX5_init 22 = .ok (.aload_n 0, 1) := by decide +kernel
theorem dX5_init_23 : decode cX5_init 23 = .ok (.sipush 1001, 3) := by decide +kernel
theorem dX5_init_26 : decode cX5_init 26 = .ok (.newarray .boolean, 2) := by decide +kernel
theorem dX5_init_28 : decode cX5_init 28 = .ok (.putfield 19, 3) := by decide +kernel
theorem dX5_init_31 : decode cX5_init 31 = .ok (.return_, 1) := by decide +kernel
theorem dX5_clearFaces_0 : decode cX5_clearFaces 0 = .ok (.iconst 0, 1) := by decide +kernel
theorem dX5_clearFaces_1 : decode cX5_clearFaces 1 = .ok (.istore_n 1, 1) := by decide +kernel
theorem dX5_clearFaces_2 : decode cX5_clearFaces 2 = .ok (.iload_n 1, 1) := by decide +kernel
theorem dX5_clearFaces_3 : decode cX5_clearFaces 3 = .ok (.sipush 1000, 3) := by decide +kernel
theorem dX5_clearFaces_6 : decode cX5_clearFaces 6 = .ok (.if_icmp .gt 23, 3) := by decide +kernel
theorem dX5_clearFaces_9 : decode cX5_clearFaces 9 = .ok (.aload_n 0, 1) := by decide +kernel
theorem dX5_clearFaces_10 : decode cX5_clearFaces 10 = .ok (.getfield 15, 3) := by decide +kernel
theorem dX5_clearFaces_13 : decode cX5_clearFaces 13 = .ok (.iload_n 1, 1) := by decide +kernel
theorem dX5_clearFaces_14 : decode cX5_clearFaces 14 = .ok (.iconst 0, 1) := by decide +kernel
theorem dX5_clearFaces_15 : decode cX5_clearFaces 15 = .ok (.bastore, 1) := by decide +kernel
theorem dX5_clearFaces_16 : decode cX5_clearFaces 16 = .ok (.aload_n 0, 1) := by decide +kernel
theorem dX5_clearFaces_17 : decode cX5_clearFaces 17 = .ok (.getfield 19, 3) := by decide +kernel
theorem dX5_clearFaces_20 : decode cX5_clearFaces 20 = .ok (.iload_n 1, 1) := by decide +kernel
theorem dX5_clearFaces_21 : decode cX5_clearFaces 21 = .ok (.iconst 0, 1) := by decide +kernel
theorem dX5_clearFaces_22 : decode cX5_clearFaces 22 = .ok (.bastore, 1) := by decide +kernel
theorem dX5_clearFaces_23 : decode cX5_clearFaces 23 = .ok (.iinc 1 1, 3) := by decide +kernel
theorem dX5_clearFaces_26 : decode cX5_clearFaces 26 = .ok (.goto (-24), 3) := by decide +kernel
theorem dX5_clearFaces_29 : decode cX5_clearFaces 29 = .ok (.return_, 1) := by decide +kernel
theorem dX5_banNear_0 : decode cX5_banNear 0 = .ok (.bipush (-100), 2) := by decide +kernel
theorem dX5_banNear_2 : decode cX5_banNear 2 = .ok (.istore_n 2, 1) := by decide +kernel
theorem dX5_banNear_3 : decode cX5_banNear 3 = .ok (.sipush 1100, 3) := by decide +kernel
theorem dX5_banNear_6 : decode cX5_banNear 6 = .ok (.istore_n 3, 1) := by decide +kernel
theorem dX5_banNear_7 : decode cX5_banNear 7 = .ok (.iconst 0, 1) := by decide +kernel
theorem dX5_banNear_8 : decode cX5_banNear 8 = .ok (.istore 4, 2) := by decide +kernel
theorem dX5_banNear_10 : decode cX5_banNear 10 = .ok (.iload 4, 2) := by decide +kernel
theorem dX5_banNear_12 : decode cX5_banNear 12 = .ok (.sipush 1000, 3) := by decide +kernel
theorem dX5_banNear_15 : decode cX5_banNear 15 = .ok (.if_icmp .gt 83, 3) := by decide +kernel
theorem dX5_banNear_18 : decode cX5_banNear 18 = .ok (.aload_n 0, 1) := by decide +kernel
theorem dX5_banNear_19 : decode cX5_banNear 19 = .ok (.getfield 15, 3) := by decide +kernel
theorem dX5_banNear_22 : decode cX5_banNear 22 = .ok (.iload 4, 2) := by decide +kernel
theorem dX5_banNear_24 : decode cX5_banNear 24 = .ok (.baload, 1) := by decide +kernel
theorem dX5_banNear_25 : decode cX5_banNear 25 = .ok (.ifCond .eq 8, 3) := by decide +kernel
theorem dX5_banNear_28 : decode cX5_banNear 28 = .ok (.iload 4, 2) := by decide +kernel
theorem dX5_banNear_30 : decode cX5_banNear 30 = .ok (.goto 4, 3) := by decide +kernel
theorem dX5_banNear_33 : decode cX5_banNear 33 = .ok (.iload_n 2, 1) := by decide +kernel
theorem dX5_banNear_34 : decode cX5_banNear 34 = .ok (.istore_n 2, 1) := by decide +kernel
theorem dX5_banNear_35 : decode cX5_banNear 35 = .ok (.iload 4, 2) := by decide +kernel
theorem dX5_banNear_37 : decode cX5_banNear 37 = .ok (.iload_n 2, 1) := by decide +kernel
theorem dX5_banNear_38 : decode cX5_banNear 38 = .ok (.isub, 1) := by decide +kernel
theorem dX5_banNear_39 : decode cX5_banNear 39 = .ok (.iload_n 1, 1) := by decide +kernel
theorem dX5_banNear_40 : decode cX5_banNear 40 = .ok (.if_icmp .ge 11, 3) := by decide +kernel
theorem dX5_banNear_43 : decode cX5_banNear 43 = .ok (.aload_n 0, 1) := by decide +kernel
theorem dX5_banNear_44 : decode cX5_banNear 44 = .ok (.getfield 19, 3) := by decide +kernel
theorem dX5_banNear_47 : decode cX5_banNear 47 = .ok (.iload 4, 2) := by decide +kernel
theorem dX5_banNear_49 : decode cX5_banNear 49 = .ok (.iconst 1, 1) := by decide +kernel
theorem dX5_banNear_50 : decode cX5_banNear 50 = .ok (.bastore, 1) := by decide +kernel
theorem dX5_banNear_51 : decode cX5_banNear 51 = .ok (.sipush 1000, 3) := by decide +kernel
theorem dX5_banNear_54 : decode cX5_banNear 54 = .ok (.iload 4, 2) := by decide +kernel
theorem dX5_banNear_56 : decode cX5_banNear 56 = .ok (.isub, 1) := by decide +kernel
theorem dX5_banNear_57 : decode cX5_banNear 57 = .ok (.istore 5, 2) := by decide +kernel
theorem dX5_banNear_59 : decode cX5_banNear 59 = .ok (.aload_n 0, 1) := by decide +kernel
theorem dX5_banNear_60 : decode cX5_banNear 60 = .ok (.getfield 15, 3) := by decide +kernel
theorem dX5_banNear_63 : decode cX5_banNear 63 = .ok (.iload 5, 2) := by decide +kernel
theorem dX5_banNear_65 : decode cX5_banNear 65 = .ok (.baload, 1) := by decide +kernel
theorem dX5_banNear_66 : decode cX5_banNear 66 = .ok (.ifCond .eq 8, 3) := by decide +kernel
theorem dX5_banNear_69 : decode cX5_banNear 69 = .ok (.iload 5, 2) := by decide +kernel
theorem dX5_banNear_71 : decode cX5_banNear 71 = .ok (.goto 4, 3) := by decide +kernel
theorem dX5_banNear_74 : decode cX5_banNear 74 = .ok (.iload_n 3, 1) := by decide +kernel
theorem dX5_banNear_75 : decode cX5_banNear 75 = .ok (.istore_n 3, 1) := by decide +kernel
theorem dX5_banNear_76 : decode cX5_banNear 76 = .ok (.iload_n 3, 1) := by decide +kernel
theorem dX5_banNear_77 : decode cX5_banNear 77 = .ok (.iload 5, 2) := by decide +kernel
theorem dX5_banNear_79 : decode cX5_banNear 79 = .ok (.isub, 1) := by decide +kernel
theorem dX5_banNear_80 : decode cX5_banNear 80 = .ok (.iload_n 1, 1) := by decide +kernel
theorem dX5_banNear_81 : decode cX5_banNear 81 = .ok (.if_icmp .ge 11, 3) := by decide +kernel
theorem dX5_banNear_84 : decode cX5_banNear 84 = .ok (.aload_n 0, 1) := by decide +kernel
theorem dX5_banNear_85 : decode cX5_banNear 85 = .ok (.getfield 19, 3) := by decide +kernel
theorem dX5_banNear_88 : decode cX5_banNear 88 = .ok (.iload 5, 2) := by decide +kernel
theorem dX5_banNear_90 : decode cX5_banNear 90 = .ok (.iconst 1, 1) := by decide +kernel
theorem dX5_banNear_91 : decode cX5_banNear 91 = .ok (.bastore, 1) := by decide +kernel
theorem dX5_banNear_92 : decode cX5_banNear 92 = .ok (.iinc 4 1, 3) := by decide +kernel
theorem dX5_banNear_95 : decode cX5_banNear 95 = .ok (.goto (-85), 3) := by decide +kernel
theorem dX5_banNear_98 : decode cX5_banNear 98 = .ok (.return_, 1) := by decide +kernel
theorem dX5_find_0 : decode cX5_find 0 = .ok (.aload_n 0, 1) := by decide +kernel
theorem dX5_find_1 : decode cX5_find 1 = .ok (.iload_n 1, 1) := by decide +kernel
theorem dX5_find_2 : decode cX5_find 2 = .ok (.invokevirtual 22, 3) := by decide +kernel
theorem dX5_find_5 : decode cX5_find 5 = .ok (.istore_n 2, 1) := by decide +kernel
theorem dX5_find_6 : decode cX5_find 6 = .ok (.iload_n 2, 1) := by decide +kernel
theorem dX5_find_7 : decode cX5_find 7 = .ok (.ifCond .ge 5, 3) := by decide +kernel
theorem dX5_find_10 : decode cX5_find 10 = .ok (.iconst 0, 1) := by decide +kernel
theorem dX5_find_11 : decode cX5_find 11 = .ok (.ireturn, 1) := by decide +kernel
theorem dX5_find_12 : decode cX5_find 12 = .ok (.iconst 0, 1) := by decide +kernel
theorem dX5_find_13 : decode cX5_find 13 = .ok (.istore_n 3, 1) := by decide +kernel
theorem dX5_find_14 : decode cX5_find 14 = .ok (.iconst 0, 1) := by decide +kernel
theorem dX5_find_15 : decode cX5_find 15 = .ok (.istore 4, 2) := by decide +kernel
theorem dX5_find_17 : decode cX5_find 17 = .ok (.iload 4, 2) := by decide +kernel
theorem dX5_find_19 : decode cX5_find 19 = .ok (.iload_n 2, 1) := by decide +kernel
theorem dX5_find_20 : decode cX5_find 20 = .ok (.if_icmp .ge 32, 3) := by decide +kernel
theorem dX5_find_23 : decode cX5_find 23 = .ok (.iload 4, 2) := by decide +kernel
theorem dX5_find_25 : decode cX5_find 25 = .ok (.sipush 1000, 3) := by decide +kernel
theorem dX5_find_28 : decode cX5_find 28 = .ok (.if_icmp .ge 24, 3) := by decide +kernel
theorem dX5_find_31 : decode cX5_find 31 = .ok (.aload_n 0, 1) := by decide +kernel
theorem dX5_find_32 : decode cX5_find 32 = .ok (.iload_n 3, 1) := by decide +kernel
theorem dX5_find_33 : decode cX5_find 33 = .ok (.iload_n 1, 1) := by decide +kernel
theorem dX5_find_34 : decode cX5_find 34 = .ok (.invokevirtual 26, 3) := by decide +kernel
theorem dX5_find_37 : decode cX5_find 37 = .ok (.istore_n 3, 1) := by decide +kernel
theorem dX5_find_38 : decode cX5_find 38 = .ok (.aload_n 0, 1) := by decide +kernel
theorem dX5_find_39 : decode cX5_find 39 = .ok (.getfield 11, 3) := by decide +kernel
theorem dX5_find_42 : decode cX5_find 42 = .ok (.iload 4, 2) := by decide +kernel
theorem dX5_find_44 : decode cX5_find 44 = .ok (.iload_n 3, 1) := by decide +kernel
theorem dX5_find_45 : decode cX5_find 45 = .ok (.iastore, 1) := by decide +kernel
theorem dX5_find_46 : decode cX5_find 46 = .ok (.iinc 4 1, 3) := by decide +kernel
theorem dX5_find_49 : decode cX5_find 49 = .ok (.goto (-32), 3) := by decide +kernel
theorem dX5_find_52 : decode cX5_find 52 = .ok (.aload_n 0, 1) := by decide +kernel
theorem dX5_find_53 : decode cX5_find 53 = .ok (.iload_n 2, 1) := by decide +kernel
theorem dX5_find_54 : decode cX5_find 54 = .ok (.putfield 30, 3) := by decide +kernel
theorem dX5_find_57 : decode cX5_find 57 = .ok (.iconst 1, 1) := by decide +kernel
theorem dX5_find_58 : decode cX5_find 58 = .ok (.ireturn, 1) := by decide +kernel
theorem dX5_stepsOf_0 : decode cX5_stepsOf 0 = .ok (.iconst 0, 1) := by decide +kernel
theorem dX5_stepsOf_1 : decode cX5_stepsOf 1 = .ok (.istore_n 2, 1) := by decide +kernel
theorem dX5_stepsOf_2 : decode cX5_stepsOf 2 = .ok (.iconst 0, 1) := by decide +kernel
theorem dX5_stepsOf_3 : decode cX5_stepsOf 3 = .ok (.istore_n 3, 1) := by decide +kernel
theorem dX5_stepsOf_4 : decode cX5_stepsOf 4 = .ok (.iload_n 3, 1) := by decide +kernel
theorem dX5_stepsOf_5 : decode cX5_stepsOf 5 = .ok (.sipush 1000, 3) := by decide +kernel
theorem dX5_stepsOf_8 : decode cX5_stepsOf 8 = .ok (.if_icmp .ge 37, 3) := by decide +kernel
theorem dX5_stepsOf_11 : decode cX5_stepsOf 11 = .ok (.iload_n 2, 1) := by decide +kernel
theorem dX5_stepsOf_12 : decode cX5_stepsOf 12 = .ok (.iload_n 1, 1) := by decide +kernel
theorem dX5_stepsOf_13 : decode cX5_stepsOf 13 = .ok (.iadd, 1) := by decide +kernel
theorem dX5_stepsOf_14 : decode cX5_stepsOf 14 = .ok (.sipush 1000, 3) := by decide +kernel
theorem dX5_stepsOf_17 : decode cX5_stepsOf 17 = .ok (.if_icmp .ge 28, 3) := by decide +kernel
theorem dX5_stepsOf_20 : decode cX5_stepsOf 20 = .ok (.aload_n 0, 1) := by decide +kernel
theorem dX5_stepsOf_21 : decode cX5_stepsOf 21 = .ok (.iload_n 2, 1) := by decide +kernel
theorem dX5_stepsOf_22 : decode cX5_stepsOf 22 = .ok (.iload_n 1, 1) := by decide +kernel
theorem dX5_stepsOf_23 : decode cX5_stepsOf 23 = .ok (.invokevirtual 26, 3) := by decide +kernel
theorem dX5_stepsOf_26 : decode cX5_stepsOf 26 = .ok (.istore 4, 2) := by decide +kernel
theorem dX5_stepsOf_28 : decode cX5_stepsOf 28 = .ok (.iload 4, 2) := by decide +kernel
theorem dX5_stepsOf_30 : decode cX5_stepsOf 30 = .ok (.iload_n 2, 1) := by decide +kernel
theorem dX5_stepsOf_31 : decode cX5_stepsOf 31 = .ok (.if_icmp .ne 5, 3) := by decide +kernel
theorem dX5_stepsOf_34 : decode cX5_stepsOf 34 = .ok (.iconst (-1), 1) := by decide +kernel
theorem dX5_stepsOf_35 : decode cX5_stepsOf 35 = .ok (.ireturn, 1) := by decide +kernel
theorem dX5_stepsOf_36 : decode cX5_stepsOf 36 = .ok (.iload 4, 2) := by decide +kernel
theorem dX5_stepsOf_38 : decode cX5_stepsOf 38 = .ok (.istore_n 2, 1) := by decide +kernel
theorem dX5_stepsOf_39 : decode cX5_stepsOf 39 = .ok (.iinc 3 1, 3) := by decide +kernel
theorem dX5_stepsOf_42 : decode cX5_stepsOf 42 = .ok (.goto (-38), 3) := by decide +kernel
theorem dX5_stepsOf_45 : decode cX5_stepsOf 45 = .ok (.iload_n 3, 1) := by decide +kernel
theorem dX5_stepsOf_46 : decode cX5_stepsOf 46 = .ok (.ireturn, 1) := by decide +kernel
theorem dX5_farthest_0 : decode cX5_farthest 0 = .ok (.sipush 1000, 3) := by decide +kernel
theorem dX5_farthest_3 : decode cX5_farthest 3 = .ok (.iload_n 1, 1) := by decide +kernel
theorem dX5_farthest_4 : decode cX5_farthest 4 = .ok (.iload_n 2, 1) := by decide +kernel
theorem dX5_farthest_5 : decode cX5_farthest 5 = .ok (.iadd, 1) := by decide +kernel
theorem dX5_farthest_6 : decode cX5_farthest 6 = .ok (.invokestatic 34, 3) := by decide +kernel
theorem dX5_farthest_9 : decode cX5_farthest 9 = .ok (.istore_n 3, 1) := by decide +kernel
theorem dX5_farthest_10 : decode cX5_farthest 10 = .ok (.iload_n 3, 1) := by decide +kernel
theorem dX5_farthest_11 : decode cX5_farthest 11 = .ok (.iload_n 1, 1) := by decide +kernel
theorem dX5_farthest_12 : decode cX5_farthest 12 = .ok (.if_icmp .le 20, 3) := by decide +kernel
theorem dX5_farthest_15 : decode cX5_farthest 15 = .ok (.aload_n 0, 1) := by decide +kernel
theorem dX5_farthest_16 : decode cX5_farthest 16 = .ok (.getfield 19, 3) := by decide +kernel
theorem dX5_farthest_19 : decode cX5_farthest 19 = .ok (.iload_n 3, 1) := by decide +kernel
theorem dX5_farthest_20 : decode cX5_farthest 20 = .ok (.baload, 1) := by decide +kernel
theorem dX5_farthest_21 : decode cX5_farthest 21 = .ok (.ifCond .ne 5, 3) := by decide +kernel
theorem dX5_farthest_24 : decode cX5_farthest 24 = .ok (.iload_n 3, 1) := by decide +kernel
theorem dX5_farthest_25 : decode cX5_farthest 25 = .ok (.ireturn, 1) := by decide +kernel
theorem dX5_farthest_26 : decode cX5_farthest 26 = .ok (.iinc 3 (-1), 3) := by decide +kernel
theorem dX5_farthest_29 : decode cX5_farthest 29 = .ok (.goto (-19), 3) := by decide +kernel
theorem dX5_farthest_32 : decode cX5_farthest 32 = .ok (.iload_n 1, 1) := by decide +kernel
theorem dX5_farthest_33 : decode cX5_farthest 33 = .ok (.ireturn, 1) := by decide +kernel
theorem dX6_init_0 : decode cX6_init 0 = .ok (.aload_n 0, 1) := by decide +kernel
theorem dX6_init_1 : decode cX6_init 1 = .ok (.invokespecial 3, 3) := by decide +kernel
theorem dX6_init_4 : decode cX6_init 4 = .ok (.aload_n 0, 1) := by decide +kernel
theorem dX6_init_5 : decode cX6_init 5 = .ok (.new 9, 3) := by decide +kernel
theorem dX6_init_8 : decode cX6_init 8 = .ok (.dup, 1) := by decide +kernel
theorem dX6_init_9 : decode cX6_init 9 = .ok (.invokespecial 11, 3) := by decide +kernel
theorem dX6_init_12 : decode cX6_init 12 = .ok (.putfield 12, 3) := by decide +kernel
theorem dX6_init_15 : decode cX6_init 15 = .ok (.aload_n 0, 1) := by decide +kernel
theorem dX6_init_16 : decode cX6_init 16 = .ok (.bipush 7, 2) := by decide +kernel
theorem dX6_init_18 : decode cX6_init 18 = .ok (.anewarray 18, 3) := by decide +kernel
theorem dX6_init_21 : decode cX6_init 21 = .ok (.putfield 20, 3) := by decide +kernel
theorem dX6_init_24 : decode cX6_init 24 = .ok (.aload_n 0, 1) := by decide +kernel
theorem dX6_init_25 : decode cX6_init 25 = .ok (.bipush 12, 2) := by decide +kernel
theorem dX6_init_27 : decode cX6_init 27 = .ok (.anewarray 18, 3) := by decide +kernel
theorem dX6_init_30 : decode cX6_init 30 = .ok (.putfield 24, 3) := by decide +kernel
theorem dX6_init_33 : decode cX6_init 33 = .ok (.aload_n 0, 1) := by decide +kernel
theorem dX6_init_34 : decode cX6_init 34 = .ok (.aload_n 1, 1) := by decide +kernel
theorem dX6_init_35 : decode cX6_init 35 = .ok (.putfield 27, 3) := by decide +kernel
theorem dX6_init_38 : decode cX6_init 38 = .ok (.iconst 0, 1) := by decide +kernel
theorem dX6_init_39 : decode cX6_init 39 = .ok (.istore_n 2, 1) := by decide +kernel
theorem dX6_init_40 : decode cX6_init 40 = .ok (.iload_n 2, 1) := by decide +kernel
theorem dX6_init_41 : decode cX6_init 41 = .ok (.bipush 6, 2) := by decide +kernel
theorem dX6_init_43 : decode cX6_init 43 = .ok (.if_icmp .gt 22, 3) := by decide +kernel
theorem dX6_init_46 : decode cX6_init 46 = .ok (.aload_n 0, 1) := by decide +kernel
theorem dX6_init_47 : decode cX6_init 47 = .ok (.getfield 20, 3) := by decide +kernel
theorem dX6_init_50 : decode cX6_init 50 = .ok (.iload_n 2, 1) := by decide +kernel
theorem dX6_init_51 : decode cX6_init 51 = .ok (.new 18, 3) := by decide +kernel
theorem dX6_init_54 : decode cX6_init 54 = .ok (.dup, 1) := by decide +kernel
theorem dX6_init_55 : decode cX6_init 55 = .ok (.invokespecial 31, 3) := by decide +kernel
theorem dX6_init_58 : decode cX6_init 58 = .ok (.aastore, 1) := by decide +kernel
theorem dX6_init_59 : decode cX6_init 59 = .ok (.iinc 2 1, 3) := by decide +kernel
theorem dX6_init_62 : decode cX6_init 62 = .ok (.goto (-22), 3) := by decide +kernel
theorem dX6_init_65 : decode cX6_init 65 = .ok (.iconst 0, 1) := by decide +kernel
theorem dX6_init_66 : decode cX6_init 66 = .ok (.istore_n 2, 1) := by decide +kernel
theorem dX6_init_67 : decode cX6_init 67 = .ok (.iload_n 2, 1) := by decide +kernel
theorem dX6_init_68 : decode cX6_init 68 = .ok (.bipush 12, 2) := by decide +kernel
theorem dX6_init_70 : decode cX6_init 70 = .ok (.if_icmp .ge 22, 3) := by decide +kernel
theorem dX6_init_73 : decode cX6_init 73 = .ok (.aload_n 0, 1) := by decide +kernel
theorem dX6_init_74 : decode cX6_init 74 = .ok (.getfield 24, 3) := by decide +kernel
theorem dX6_init_77 : decode cX6_init 77 = .ok (.iload_n 2, 1) := by decide +kernel
theorem dX6_init_78 : decode cX6_init 78 = .ok (.new 18, 3) := by decide +kernel
theorem dX6_init_81 : decode cX6_init 81 = .ok (.dup, 1) := by decide +kernel
theorem dX6_init_82 : decode cX6_init 82 = .ok (.invokespecial 31, 3) := by decide +kernel
theorem dX6_init_85 : decode cX6_init 85 = .ok (.aastore, 1) := by decide +kernel
theorem dX6_init_86 : decode cX6_init 86 = .ok (.iinc 2 1, 3) := by decide +kernel
theorem dX6_init_89 : decode cX6_init 89 = .ok (.goto (-22), 3) := by decide +kernel
theorem dX6_init_92 : decode cX6_init 92 = .ok (.return_, 1) := by decide +kernel
theorem dX6_parse_0 : decode cX6_parse 0 = .ok (.aload_n 0, 1) := by decide +kernel
theorem dX6_parse_1 : decode cX6_parse 1 = .ok (.getfield 27, 3) := by decide +kernel
theorem dX6_parse_4 : decode cX6_parse 4 = .ok (.invokevirtual 32, 3) := by decide +kernel
theorem dX6_parse_7 : decode cX6_parse 7 = .ok (.aload_n 0, 1) := by decide +kernel
theorem dX6_parse_8 : decode cX6_parse 8 = .ok (.getfield 12, 3) := by decide +kernel
theorem dX6_parse_11 : decode cX6_parse 11 = .ok (.iconst 0, 1) := by decide +kernel
theorem dX6_parse_12 : decode cX6_parse 12 = .ok (.putfield 37, 3) := by decide +kernel
theorem dX6_parse_15 : decode cX6_parse 15 = .ok (.aload_n 0, 1) := by decide +kernel
theorem dX6_parse_16 : decode cX6_parse 16 = .ok (.iconst 0, 1) := by decide +kernel
theorem dX6_parse_17 : decode cX6_parse 17 = .ok (.putfield 41, 3) := by decide +kernel
theorem dX6_parse_20 : decode cX6_parse 20 = .ok (.aload_n 0, 1) := by decide +kernel
theorem dX6_parse_21 : decode cX6_parse 21 = .ok (.iconst 0, 1) := by decide +kernel
theorem dX6_parse_22 : decode cX6_parse 22 = .ok (.putfield 44, 3) := by decide +kernel
theorem dX6_parse_25 : decode cX6_parse 25 = .ok (.aload_n 0, 1) := by decide +kernel
theorem dX6_parse_26 : decode cX6_parse 26 = .ok (.getfield 20, 3) := by decide +kernel
theorem dX6_parse_29 : decode cX6_parse 29 = .ok (.iconst 0, 1) := by decide +kernel
theorem dX6_parse_30 : decode cX6_parse 30 = .ok (.aaload, 1) := by decide +kernel
theorem dX6_parse_31 : decode cX6_parse 31 = .ok (.iconst 0, 1) := by decide +kernel
theorem dX6_parse_32 : decode cX6_parse 32 = .ok (.iconst 1, 1) := by decide +kernel
theorem dX6_parse_33 : decode cX6_parse 33 = .ok (.invokevirtual 47, 3) := by decide +kernel
theorem dX6_parse_36 : decode cX6_parse 36 = .ok (.iconst 0, 1) := by decide +kernel
theorem dX6_parse_37 : decode cX6_parse 37 = .ok (.istore_n 1, 1) := by decide +kernel
theorem dX6_parse_38 : decode cX6_parse 38 = .ok (.iload_n 1, 1) := by decide +kernel
theorem dX6_parse_39 : decode cX6_parse 39 = .ok (.sipush 600, 3) := by decide +kernel
theorem dX6_parse_42 : decode cX6_parse 42 = .ok (.if_icmp .gt 46, 3) := by decide +kernel
theorem dX6_parse_45 : decode cX6_parse 45 = .ok (.aload_n 0, 1) := by decide +kernel
theorem dX6_parse_46 : decode cX6_parse 46 = .ok (.invokevirtual 51, 3) := by decide +kernel
theorem dX6_parse_49 : decode cX6_parse 49 = .ok (.ifCond .eq 39, 3) := by decide +kernel
theorem dX6_parse_52 : decode cX6_parse 52 = .ok (.aload_n 0, 1) := by decide +kernel
theorem dX6_parse_53 : decode cX6_parse 53 = .ok (.getfield 41, 3) := by decide +kernel
theorem dX6_parse_56 : decode cX6_parse 56 = .ok (.ifCond .le 22, 3) := by decide +kernel
theorem dX6_parse_59 : decode cX6_parse 59 = .ok (.aload_n 0, 1) := by decide +kernel
theorem dX6_parse_60 : decode cX6_parse 60 = .ok (.getfield 27, 3) := by decide +kernel
theorem dX6_parse_63 : decode cX6_parse 63 = .ok (.bipush 93, 2) := by decide +kernel
theorem dX6_parse_65 : decode cX6_parse 65 = .ok (.invokevirtual 55, 3) := by decide +kernel
theorem dX6_parse_68 : decode cX6_parse 68 = .ok (.ifCond .eq 10, 3) := by decide +kernel
theorem dX6_parse_71 : decode cX6_parse 71 = .ok (.aload_n 0, 1) := by decide +kernel
theorem dX6_parse_72 : decode cX6_parse 72 = .ok (.invokevirtual 59, 3) := by decide +kernel
theorem dX6_parse_75 : decode cX6_parse 75 = .ok (.goto 7, 3) := by decide +kernel
theorem dX6_parse_78 : decode cX6_parse 78 = .ok (.aload_n 0, 1) := by decide +kernel
theorem dX6_parse_79 : decode cX6_parse 79 = .ok (.invokevirtual 62, 3) := by decide +kernel
theorem dX6_parse_82 : decode cX6_parse 82 = .ok (.iinc 1 1, 3) := by decide +kernel
theorem dX6_parse_85 : decode cX6_parse 85 = .ok (.goto (-47), 3) := by decide +kernel
theorem dX6_parse_88 : decode cX6_parse 88 = .ok (.aload_n 0, 1) := by decide +kernel
theorem dX6_parse_89 : decode cX6_parse 89 = .ok (.getfield 20, 3) := by decide +kernel
theorem dX6_parse_92 : decode cX6_parse 92 = .ok (.iconst 0, 1) := by decide +kernel
theorem dX6_parse_93 : decode cX6_parse 93 = .ok (.aaload, 1) := by decide +kernel
theorem dX6_parse_94 : decode cX6_parse 94 = .ok (.getfield 65, 3) := by decide +kernel
theorem dX6_parse_97 : decode cX6_parse 97 = .ok (.sipush 240, 3) := by decide +kernel
theorem dX6_parse_100 : decode cX6_parse 100 = .ok (.if_icmp .le 18, 3) := by decide +kernel
theorem dX6_parse_103 : decode cX6_parse 103 = .ok (.aload_n 0, 1) := by decide +kernel
theorem dX6_parse_104 : decode cX6_parse 104 = .ok (.getfield 27, 3) := by decide +kernel
theorem dX6_parse_107 : decode cX6_parse 107 = .ok (.iconst 5, 1) := by decide +kernel
theorem dX6_parse_108 : decode cX6_parse 108 = .ok (.aload_n 0, 1) := by decide +kernel
theorem dX6_parse_109 : decode cX6_parse 109 = .ok (.getfield 27, 3) := by decide +kernel
theorem dX6_parse_112 : decode cX6_parse 112 = .ok (.getfield 68, 3) := by decide +kernel
theorem dX6_parse_115 : decode cX6_parse 115 = .ok (.invokevirtual 71, 3) := by decide +kernel
theorem dX6_parse_118 : decode cX6_parse 118 = .ok (.return_, 1) := by decide +kernel
theorem dX6_hasMore_0 : decode cX6_hasMore 0 = .ok (.aload_n 0, 1) := by decide +kernel
theorem dX6_hasMore_1 : decode cX6_hasMore 1 = .ok (.getfield 27, 3) := by decide +kernel
theorem dX6_hasMore_4 : decode cX6_hasMore 4 = .ok (.getfield 74, 3) := by decide +kernel
theorem dX6_hasMore_7 : decode cX6_hasMore 7 = .ok (.ifCond .eq 5, 3) := by decide +kernel
theorem dX6_hasMore_10 : decode cX6_hasMore 10 = .ok (.iconst 0, 1) := by decide +kernel
theorem dX6_hasMore_11 : decode cX6_hasMore 11 = .ok (.ireturn, 1) := by decide +kernel
theorem dX6_hasMore_12 : decode cX6_hasMore 12 = .ok (.aload_n 0, 1) := by decide +kernel
theorem dX6_hasMore_13 : decode cX6_hasMore 13 = .ok (.getfield 27, 3) := by decide +kernel
theorem dX6_hasMore_16 : decode cX6_hasMore 16 = .ok (.invokevirtual 77, 3) := by decide +kernel
theorem dX6_hasMore_19 : decode cX6_hasMore 19 = .ok (.aload_n 0, 1) := by decide +kernel
theorem dX6_hasMore_20 : decode cX6_hasMore 20 = .ok (.getfield 27, 3) := by decide +kernel
theorem dX6_hasMore_23 : decode cX6_hasMore 23 = .ok (.invokevirtual 80, 3) := by decide +kernel
theorem dX6_hasMore_26 : decode cX6_hasMore 26 = .ok (.ifCond .ne 5, 3) := by decide +kernel
theorem dX6_hasMore_29 : decode cX6_hasMore 29 = .ok (.iconst 1, 1) := by decide +kernel
theorem dX6_hasMore_30 : decode cX6_hasMore 30 = .ok (.ireturn, 1) := by decide +kernel
theorem dX6_hasMore_31 : decode cX6_hasMore 31 = .ok (.aload_n 0, 1) := by decide +kernel
theorem dX6_hasMore_32 : decode cX6_hasMore 32 = .ok (.getfield 41, 3) := by decide +kernel
theorem dX6_hasMore_35 : decode cX6_hasMore 35 = .ok (.ifCond .le 18, 3) := by decide +kernel
theorem dX6_hasMore_38 : decode cX6_hasMore 38 = .ok (.aload_n 0, 1) := by decide +kernel
theorem dX6_hasMore_39 : decode cX6_hasMore 39 = .ok (.getfield 27, 3) := by decide +kernel
theorem dX6_hasMore_42 : decode cX6_hasMore 42 = .ok (.iconst 1, 1) := by decide +kernel
theorem dX6_hasMore_43 : decode cX6_hasMore 43 = .ok (.aload_n 0, 1) := by decide +kernel
theorem dX6_hasMore_44 : decode cX6_hasMore 44 = .ok (.getfield 27, 3) := by decide +kernel
theorem dX6_hasMore_47 : decode cX6_hasMore 47 = .ok (.getfield 68, 3) := by decide +kernel
theorem dX6_hasMore_50 : decode cX6_hasMore 50 = .ok (.invokevirtual 71, 3) := by decide +kernel
theorem dX6_hasMore_53 : decode cX6_hasMore 53 = .ok (.iconst 0, 1) := by decide +kernel
theorem dX6_hasMore_54 : decode cX6_hasMore 54 = .ok (.ireturn, 1) := by decide +kernel
theorem dX7_init_0 : decode cX7_init 0 = .ok (.aload_n 0, 1) := by decide +kernel
theorem dX7_init_1 : decode cX7_init 1 = .ok (.invokespecial 3, 3) := by decide +kernel
theorem dX7_init_4 : decode cX7_init 4 = .ok (.aload_n 0, 1) := by decide +kernel
theorem dX7_init_5 : decode cX7_init 5 = .ok (.bipush (-50), 2) := by decide +kernel
theorem dX7_init_7 : decode cX7_init 7 = .ok (.putfield 9, 3) := by decide +kernel
theorem dX7_init_10 : decode cX7_init 10 = .ok (.aload_n 0, 1) := by decide +kernel
theorem dX7_init_11 : decode cX7_init 11 = .ok (.iconst 0, 1) := by decide +kernel
theorem dX7_init_12 : decode cX7_init 12 = .ok (.putfield 15, 3) := by decide +kernel
theorem dX7_init_15 : decode cX7_init 15 = .ok (.aload_n 0, 1) := by decide +kernel
theorem dX7_init_16 : decode cX7_init 16 = .ok (.bipush 50, 2) := by decide +kernel
theorem dX7_init_18 : decode cX7_init 18 = .ok (.putfield 18, 3) := by decide +kernel
theorem dX7_init_21 : decode cX7_init 21 = .ok (.aload_n 0, 1) := by decide +kernel
theorem dX7_init_22 : decode cX7_init 22 = .ok (.bipush 80, 2) := by decide +kernel
theorem dX7_init_24 : decode cX7_init 24 = .ok (.putfield 21, 3) := by decide +kernel
theorem dX7_init_27 : decode cX7_init 27 = .ok (.aload_n 0, 1) := by decide +kernel
theorem dX7_init_28 : decode cX7_init 28 = .ok (.bipush (-60), 2) := by decide +kernel
theorem dX7_init_30 : decode cX7_init 30 = .ok (.putfield 24, 3) := by decide +kernel
theorem dX7_init_33 : decode cX7_init 33 = .ok (.aload_n 0, 1) := by decide +kernel
theorem dX7_init_34 : decode cX7_init 34 = .ok (.bipush (-40), 2) := by decide +kernel
theorem dX7_init_36 : decode cX7_init 36 = .ok (.putfield 27, 3) := by decide +kernel
theorem dX7_init_39 : decode cX7_init 39 = .ok (.aload_n 0, 1) := by decide +kernel
theorem dX7_init_40 : decode cX7_init 40 = .ok (.bipush 60, 2) := by decide +kernel
theorem dX7_init_42 : decode cX7_init 42 = .ok (.putfield 30, 3) := by decide +kernel
theorem dX7_init_45 : decode cX7_init 45 = .ok (.aload_n 0, 1) := by decide +kernel
theorem dX7_init_46 : decode cX7_init 46 = .ok (.bipush (-40), 2) := by decide +kernel
theorem dX7_init_48 : decode cX7_init 48 = .ok (.putfield 33, 3) := by decide +kernel
theorem dX7_init_51 : decode cX7_init 51 = .ok (.aload_n 0, 1) := by decide +kernel
theorem dX7_init_52 : decode cX7_init 52 = .ok (.iconst 0, 1) := by decide +kernel
theorem dX7_init_53 : decode cX7_init 53 = .ok (.putfield 36, 3) := by decide +kernel
theorem dX7_init_56 : decode cX7_init 56 = .ok (.aload_n 0, 1) := by decide +kernel
theorem dX7_init_57 : decode cX7_init 57 = .ok (.iconst 4, 1) := by decide +kernel
theorem dX7_init_58 : decode cX7_init 58 = .ok (.putfield 39, 3) := by decide +kernel
theorem dX7_init_61 : decode cX7_init 61 = .ok (.aload_n 0, 1) := by decide +kernel
theorem dX7_init_62 : decode cX7_init 62 = .ok (.iconst 0, 1) := by decide +kernel
theorem dX7_init_63 : decode cX7_init 63 = .ok (.putfield 42, 3) := by decide +kernel
theorem dX7_init_66 : decode cX7_init 66 = .ok (.aload_n 0, 1) := by decide +kernel
theorem dX7_init_67 : decode cX7_init 67 = .ok (.bipush 8, 2) := by decide +kernel
theorem dX7_init_69 : decode cX7_init 69 = .ok (.newarray .boolean, 2) := by decide +kernel
theorem dX7_init_71 : decode cX7_init 71 = .ok (.putfield 45, 3) := by decide +kernel
theorem dX7_init_74 : decode cX7_init 74 = .ok (.aload_n 0, 1) := by decide +kernel
theorem dX7_init_75 : decode cX7_init 75 = .ok (.bipush 8, 2) := by decide +kernel
theorem dX7_init_77 : decode cX7_init 77 = .ok (.newarray .int, 2) := by decide +kernel
theorem dX7_init_79 : decode cX7_init 79 = .ok (.putfield 49, 3) := by decide +kernel
theorem dX7_init_82 : decode cX7_init 82 = .ok (.aload_n 0, 1) := by decide +kernel
theorem dX7_init_83 : decode cX7_init 83 = .ok (.bipush 8, 2) := by decide +kernel
theorem dX7_init_85 : decode cX7_init 85 = .ok (.newarray .int, 2) := by decide +kernel
theorem dX7_init_87 : decode cX7_init 87 = .ok (.putfield 53, 3) := by decide +kernel
theorem dX7_init_90 : decode cX7_init 90 = .ok (.aload_n 0, 1) := by decide +kernel
theorem dX7_init_91 : decode cX7_init 91 = .ok (.bipush 12, 2) := by decide +kernel
theorem dX7_init_93 : decode cX7_init 93 = .ok (.newarray .boolean, 2) := by decide +kernel
theorem dX7_init_95 : decode cX7_init 95 = .ok (.putfield 56, 3) := by decide +kernel
theorem dX7_init_98 : decode cX7_init 98 = .ok (.aload_n 0, 1) := by decide +kernel
theorem dX7_init_99 : decode cX7_init 99 = .ok (.bipush 12, 2) := by decide +kernel
theorem dX7_init_101 : decode cX7_init 101 = .ok (.iconst 4, 1) := by decide +kernel
theorem dX7_init_102 : decode cX7_init 102 = .ok (.multianewarray 59 2, 4) := by decide +kernel
theorem dX7_init_106 : decode cX7_init 106 = .ok (.putfield 61, 3) := by decide +kernel
theorem dX7_init_109 : decode cX7_init 109 = .ok (.aload_n 0, 1) := by decide +kernel
theorem dX7_init_110 : decode cX7_init 110 = .ok (.bipush 12, 2) := by decide +kernel
theorem dX7_init_112 : decode cX7_init 112 = .ok (.newarray .boolean, 2) := by decide +kernel
theorem dX7_init_114 : decode cX7_init 114 = .ok (.putfield 64, 3) := by decide +kernel
theorem dX7_init_117 : decode cX7_init 117 = .ok (.aload_n 0, 1) := by decide +kernel
theorem dX7_init_118 : decode cX7_init 118 = .ok (.bipush 8, 2) := by decide +kernel
theorem dX7_init_120 : decode cX7_init 120 = .ok (.newarray .boolean, 2) := by decide +kernel
theorem dX7_init_122 : decode cX7_init 122 = .ok (.putfield 67, 3) := by decide +kernel
theorem dX7_init_125 : decode cX7_init 125 = .ok (.aload_n 0, 1) := by decide +kernel
theorem dX7_init_126 : decode cX7_init 126 = .ok (.bipush 8, 2) := by decide +kernel
theorem dX7_init_128 : decode cX7_init 128 = .ok (.iconst 4, 1) := by decide +kernel
theorem dX7_init_129 : decode cX7_init 129 = .ok (.multianewarray 59 2, 4) := by decide +kernel
theorem dX7_init_133 : decode cX7_init 133 = .ok (.putfield 70, 3) := by decide +kernel
theorem dX7_init_136 : decode cX7_init 136 = .ok (.return_, 1) := by decide +kernel
theorem dX7_hasSeat_0 : decode cX7_hasSeat 0 = .ok (.iload_n 1, 1) := by decide +kernel
theorem dX7_hasSeat_1 : decode cX7_hasSeat 1 = .ok (.ifCond .lt 22, 3) := by decide +kernel
theorem dX7_hasSeat_4 : decode cX7_hasSeat 4 = .ok (.iload_n 1, 1) := by decide +kernel
theorem dX7_hasSeat_5 : decode cX7_hasSeat 5 = .ok (.bipush 8, 2) := by decide +kernel
theorem dX7_hasSeat_7 : decode cX7_hasSeat 7 = .ok (.if_icmp .ge 16, 3) := by decide +kernel
theorem dX7_hasSeat_10 : decode cX7_hasSeat 10 = .ok (.aload_n 0, 1) := by decide +kernel
theorem dX7_hasSeat_11 : decode cX7_hasSeat 11 = .ok (.getfield 45, 3) := by decide +kernel
theorem dX7_hasSeat_14 : decode cX7_hasSeat 14 = .ok (.iload_n 1, 1) := by decide +kernel
theorem dX7_hasSeat_15 : decode cX7_hasSeat 15 = .ok (.baload, 1) := by decide +kernel
theorem dX7_hasSeat_16 : decode cX7_hasSeat 16 = .ok (.ifCond .eq 7, 3) := by decide +kernel
theorem dX7_hasSeat_19 : decode cX7_hasSeat 19 = .ok (.iconst 1, 1) := by decide +kernel
theorem dX7_hasSeat_20 : decode cX7_hasSeat 20 = .ok (.goto 4, 3) := by decide +kernel
theorem dX7_hasSeat_23 : decode cX7_hasSeat 23 = .ok (.iconst 0, 1) := by decide +kernel
theorem dX7_hasSeat_24 : decode cX7_hasSeat 24 = .ok (.ireturn, 1) := by decide +kernel
theorem dX7_hasWall_0 : decode cX7_hasWall 0 = .ok (.iload_n 1, 1) := by decide +kernel
theorem dX7_hasWall_1 : decode cX7_hasWall 1 = .ok (.ifCond .lt 22, 3) := by decide +kernel
theorem dX7_hasWall_4 : decode cX7_hasWall 4 = .ok (.iload_n 1, 1) := by decide +kernel
theorem dX7_hasWall_5 : decode cX7_hasWall 5 = .ok (.bipush 12, 2) := by decide +kernel
theorem dX7_hasWall_7 : decode cX7_hasWall 7 = .ok (.if_icmp .ge 16, 3) := by decide +kernel
theorem dX7_hasWall_10 : decode cX7_hasWall 10 = .ok (.aload_n 0, 1) := by decide +kernel
theorem dX7_hasWall_11 : decode cX7_hasWall 11 = .ok (.getfield 56, 3) := by decide +kernel
theorem dX7_hasWall_14 : decode cX7_hasWall 14 = .ok (.iload_n 1, 1) := by decide +kernel
theorem dX7_hasWall_15 : decode cX7_hasWall 15 = .ok (.baload, 1) := by decide +kernel
theorem dX7_hasWall_16 : decode cX7_hasWall 16 = .ok (.ifCond .eq 7, 3) := by decide +kernel
theorem dX7_hasWall_19 : decode cX7_hasWall 19 = .ok (.iconst 1, 1) := by decide +kernel
theorem dX7_hasWall_20 : decode cX7_hasWall 20 = .ok (.goto 4, 3) := by decide +kernel
theorem dX7_hasWall_23 : decode cX7_hasWall 23 = .ok (.iconst 0, 1) := by decide +kernel
theorem dX7_hasWall_24 : decode cX7_hasWall 24 = .ok (.ireturn, 1) := by decide +kernel
theorem dX8_init_0 : decode cX8_init 0 = .ok (.aload_n 0, 1) := by decide +kernel
theorem dX8_init_1 : decode cX8_init 1 = .ok (.invokespecial 3, 3) := by decide +kernel
theorem dX8_init_4 : decode cX8_init 4 = .ok (.aload_n 0, 1) := by decide +kernel
theorem dX8_init_5 : decode cX8_init 5 = .ok (.aload_n 1, 1) := by decide +kernel
theorem dX8_init_6 : decode cX8_init 6 = .ok (.putfield 9, 3) := by decide +kernel
theorem dX8_init_9 : decode cX8_init 9 = .ok (.aload_n 0, 1) := by decide +kernel
theorem dX8_init_10 : decode cX8_init 10 = .ok (.aload_n 2, 1) := by decide +kernel
theorem dX8_init_11 : decode cX8_init 11 = .ok (.putfield 15, 3) := by decide +kernel
theorem dX8_init_14 : decode cX8_init 14 = .ok (.aload_n 0, 1) := by decide +kernel
theorem dX8_init_15 : decode cX8_init 15 = .ok (.new 19, 3) := by decide +kernel
theorem dX8_init_18 : decode cX8_init 18 = .ok (.dup, 1) := by decide +kernel
theorem dX8_init_19 : decode cX8_init 19 = .ok (.invokespecial 21, 3) := by decide +kernel
theorem dX8_init_22 : decode cX8_init 22 = .ok (.putfield 22, 3) := by decide +kernel
theorem dX8_init_25 : decode cX8_init 25 = .ok (.return_, 1) := by decide +kernel
theorem dX8_layOwn_0 : decode cX8_layOwn 0 = .ok (.aload_n 0, 1) := by decide +kernel
theorem dX8_layOwn_1 : decode cX8_layOwn 1 = .ok (.getfield 22, 3) := by decide +kernel
theorem dX8_layOwn_4 : decode cX8_layOwn 4 = .ok (.aload_n 0, 1) := by decide +kernel
theorem dX8_layOwn_5 : decode cX8_layOwn 5 = .ok (.getfield 9, 3) := by decide +kernel
theorem dX8_layOwn_8 : decode cX8_layOwn 8 = .ok (.aload_n 0, 1) := by decide +kernel
theorem dX8_layOwn_9 : decode cX8_layOwn 9 = .ok (.getfield 9, 3) := by decide +kernel
theorem dX8_layOwn_12 : decode cX8_layOwn 12 = .ok (.getfield 26, 3) := by decide +kernel
theorem dX8_layOwn_15 : decode cX8_layOwn 15 = .ok (.aload_n 0, 1) := by decide +kernel
theorem dX8_layOwn_16 : decode cX8_layOwn 16 = .ok (.getfield 9, 3) := by decide +kernel
theorem dX8_layOwn_19 : decode cX8_layOwn 19 = .ok (.getfield 32, 3) := by decide +kernel
theorem dX8_layOwn_22 : decode cX8_layOwn 22 = .ok (.aload_n 0, 1) := by decide +kernel
theorem dX8_layOwn_23 : decode cX8_layOwn 23 = .ok (.getfield 9, 3) := by decide +kernel
theorem dX8_layOwn_26 : decode cX8_layOwn 26 = .ok (.getfield 35, 3) := by decide +kernel
theorem dX8_layOwn_29 : decode cX8_layOwn 29 = .ok (.invokevirtual 38, 3) := by decide +kernel
theorem dX8_layOwn_32 : decode cX8_layOwn 32 = .ok (.return_, 1) := by decide +kernel
theorem dX8_standAt_0 : decode cX8_standAt 0 = .ok (.aload_n 0, 1) := by decide +kernel
theorem dX8_standAt_1 : decode cX8_standAt 1 = .ok (.getfield 15, 3) := by decide +kernel
theorem dX8_standAt_4 : decode cX8_standAt 4 = .ok (.getfield 83, 3) := by decide +kernel
theorem dX8_standAt_7 : decode cX8_standAt 7 = .ok (.iload_n 1, 1) := by decide +kernel
theorem dX8_standAt_8 : decode cX8_standAt 8 = .ok (.iaload, 1) := by decide +kernel
theorem dX8_standAt_9 : decode cX8_standAt 9 = .ok (.istore_n 2, 1) := by decide +kernel
theorem dX8_standAt_10 : decode cX8_standAt 10 = .ok (.aload_n 0, 1) := by decide +kernel
theorem dX8_standAt_11 : decode cX8_standAt 11 = .ok (.aload_n 0, 1) := by decide +kernel
theorem dX8_standAt_12 : decode cX8_standAt 12 = .ok (.getfield 9, 3) := by decide +kernel
theorem dX8_standAt_15 : decode cX8_standAt 15 = .ok (.getfield 88, 3) := by decide +kernel
theorem dX8_standAt_18 : decode cX8_standAt 18 = .ok (.aload_n 0, 1) := by decide +kernel
theorem dX8_standAt_19 : decode cX8_standAt 19 = .ok (.getfield 9, 3) := by decide +kernel
theorem dX8_standAt_22 : decode cX8_standAt 22 = .ok (.getfield 91, 3) := by decide +kernel
theorem dX8_standAt_25 : decode cX8_standAt 25 = .ok (.aload_n 0, 1) := by decide +kernel
theorem dX8_standAt_26 : decode cX8_standAt 26 = .ok (.getfield 9, 3) := by decide +kernel
theorem dX8_standAt_29 : decode cX8_standAt 29 = .ok (.getfield 88, 3) := by decide +kernel
theorem dX8_standAt_32 : decode cX8_standAt 32 = .ok (.isub, 1) := by decide +kernel
theorem dX8_standAt_33 : decode cX8_standAt 33 = .ok (.iload_n 2, 1) := by decide +kernel
theorem dX8_standAt_34 : decode cX8_standAt 34 = .ok (.imul, 1) := by decide +kernel
theorem dX8_standAt_35 : decode cX8_standAt 35 = .ok (.sipush 1000, 3) := by decide +kernel
theorem dX8_standAt_38 : decode cX8_standAt 38 = .ok (.invokestatic 94, 3) := by decide +kernel
theorem dX8_standAt_41 : decode cX8_standAt 41 = .ok (.iadd, 1) := by decide +kernel
theorem dX8_standAt_42 : decode cX8_standAt 42 = .ok (.putfield 100, 3) := by decide +kernel
theorem dX8_standAt_45 : decode cX8_standAt 45 = .ok (.aload_n 0, 1) := by decide +kernel
theorem dX8_standAt_46 : decode cX8_standAt 46 = .ok (.aload_n 0, 1) := by decide +kernel
theorem dX8_standAt_47 : decode cX8_standAt 47 = .ok (.getfield 9, 3) := by decide +kernel
theorem dX8_standAt_50 : decode cX8_standAt 50 = .ok (.getfield 103, 3) := by decide +kernel
theorem dX8_standAt_53 : decode cX8_standAt 53 = .ok (.aload_n 0, 1) := by decide +kernel
theorem dX8_standAt_54 : decode cX8_standAt 54 = .ok (.getfield 22, 3) := by decide +kernel
theorem dX8_standAt_57 : decode cX8_standAt 57 = .ok (.getfield 106, 3) := by decide +kernel
theorem dX8_standAt_60 : decode cX8_standAt 60 = .ok (.isub, 1) := by decide +kernel
theorem dX8_standAt_61 : decode cX8_standAt 61 = .ok (.aload_n 0, 1) := by decide +kernel
theorem dX8_standAt_62 : decode cX8_standAt 62 = .ok (.getfield 9, 3) := by decide +kernel
theorem dX8_standAt_65 : decode cX8_standAt 65 = .ok (.getfield 107, 3) := by decide +kernel
theorem dX8_standAt_68 : decode cX8_standAt 68 = .ok (.aload_n 0, 1) := by decide +kernel
theorem dX8_standAt_69 : decode cX8_standAt 69 = .ok (.getfield 9, 3) := by decide +kernel
theorem dX8_standAt_72 : decode cX8_standAt 72 = .ok (.getfield 103, 3) := by decide +kernel
theorem dX8_standAt_75 : decode cX8_standAt 75 = .ok (.isub, 1) := by decide +kernel
theorem dX8_standAt_76 : decode cX8_standAt 76 = .ok (.iload_n 2, 1) := by decide +kernel
theorem dX8_standAt_77 : decode cX8_standAt 77 = .ok (.imul, 1) := by decide +kernel
theorem dX8_standAt_78 : decode cX8_standAt 78 = .ok (.sipush 1000, 3) := by decide +kernel
theorem dX8_standAt_81 : decode cX8_standAt 81 = .ok (.invokestatic 94, 3) := by decide +kernel
theorem dX8_standAt_84 : decode cX8_standAt 84 = .ok (.iadd, 1) := by decide +kernel
theorem dX8_standAt_85 : decode cX8_standAt 85 = .ok (.putfield 110, 3) := by decide +kernel
theorem dX8_standAt_88 : decode cX8_standAt 88 = .ok (.aload_n 0, 1) := by decide +kernel
theorem dX8_standAt_89 : decode cX8_standAt 89 = .ok (.aload_n 0, 1) := by decide +kernel
theorem dX8_standAt_90 : decode cX8_standAt 90 = .ok (.getfield 110, 3) := by decide +kernel
theorem dX8_standAt_93 : decode cX8_standAt 93 = .ok (.aload_n 0, 1) := by decide +kernel
theorem dX8_standAt_94 : decode cX8_standAt 94 = .ok (.getfield 15, 3) := by decide +kernel
theorem dX8_standAt_97 : decode cX8_standAt 97 = .ok (.getfield 113, 3) := by decide +kernel
theorem dX8_standAt_100 : decode cX8_standAt 100 = .ok (.iload_n 1, 1) := by decide +kernel
theorem dX8_standAt_101 : decode cX8_standAt 101 = .ok (.iaload, 1) := by decide +kernel
theorem dX8_standAt_102 : decode cX8_standAt 102 = .ok (.iadd, 1) := by decide +kernel
theorem dX8_standAt_103 : decode cX8_standAt 103 = .ok (.putfield 116, 3) := by decide +kernel
theorem dX8_standAt_106 : decode cX8_standAt 106 = .ok (.return_, 1) := by decide +kernel
theorem dX8_isHeld_0 : decode cX8_isHeld 0 = .ok (.aload_n 0, 1) := by decide +kernel
theorem dX8_isHeld_1 : decode cX8_isHeld 1 = .ok (.getfield 22, 3) := by decide +kernel
theorem dX8_isHeld_4 : decode cX8_isHeld 4 = .ok (.aload_n 0, 1) := by decide +kernel
theorem dX8_isHeld_5 : decode cX8_isHeld 5 = .ok (.getfield 100, 3) := by decide +kernel
theorem dX8_isHeld_8 : decode cX8_isHeld 8 = .ok (.aload_n 0, 1) := by decide +kernel
theorem dX8_isHeld_9 : decode cX8_isHeld 9 = .ok (.getfield 110, 3) := by decide +kernel
theorem dX8_isHeld_12 : decode cX8_isHeld 12 = .ok (.invokevirtual 119, 3) := by decide +kernel
theorem dX8_isHeld_15 : decode cX8_isHeld 15 = .ok (.aload_n 0, 1) := by decide +kernel
theorem dX8_isHeld_16 : decode cX8_isHeld 16 = .ok (.getfield 22, 3) := by decide +kernel
theorem dX8_isHeld_19 : decode cX8_isHeld 19 = .ok (.getfield 123, 3) := by decide +kernel
theorem dX8_isHeld_22 : decode cX8_isHeld 22 = .ok (.aload_n 0, 1) := by decide +kernel
theorem dX8_isHeld_23 : decode cX8_isHeld 23 = .ok (.getfield 9, 3) := by decide +kernel
theorem dX8_isHeld_26 : decode cX8_isHeld 26 = .ok (.getfield 127, 3) := by decide +kernel
theorem dX8_isHeld_29 : decode cX8_isHeld 29 = .ok (.i2l, 1) := by decide +kernel
theorem dX8_isHeld_30 : decode cX8_isHeld 30 = .ok (.lmul, 1) := by decide +kernel
theorem dX8_isHeld_31 : decode cX8_isHeld 31 = .ok (.lsub, 1) := by decide +kernel
theorem dX8_isHeld_32 : decode cX8_isHeld 32 = .ok (.lstore_n 1, 1) := by decide +kernel
theorem dX8_isHeld_33 : decode cX8_isHeld 33 = .ok (.lload_n 1, 1) := by decide +kernel
theorem dX8_isHeld_34 : decode cX8_isHeld 34 = .ok (.invokestatic 130, 3) := by decide +kernel
theorem dX8_isHeld_37 : decode cX8_isHeld 37 = .ok (.aload_n 0, 1) := by decide +kernel
theorem dX8_isHeld_38 : decode cX8_isHeld 38 = .ok (.getfield 22, 3) := by decide +kernel
theorem dX8_isHeld_41 : decode cX8_isHeld 41 = .ok (.getfield 123, 3) := by decide +kernel
theorem dX8_isHeld_44 : decode cX8_isHeld 44 = .ok (.aload_n 0, 1) := by decide +kernel
theorem dX8_isHeld_45 : decode cX8_isHeld 45 = .ok (.getfield 9, 3) := by decide +kernel
theorem dX8_isHeld_48 : decode cX8_isHeld 48 = .ok (.getfield 134, 3) := by decide +kernel
theorem dX8_isHeld_51 : decode cX8_isHeld 51 = .ok (.i2l, 1) := by decide +kernel
theorem dX8_isHeld_52 : decode cX8_isHeld 52 = .ok (.lmul, 1) := by decide +kernel
theorem dX8_isHeld_53 : decode cX8_isHeld 53 = .ok (.lcmp, 1) := by decide +kernel
theorem dX8_isHeld_54 : decode cX8_isHeld 54 = .ok (.ifCond .gt 7, 3) := by decide +kernel
theorem dX8_isHeld_57 : decode cX8_isHeld 57 = .ok (.iconst 1, 1) := by decide +kernel
theorem dX8_isHeld_58 : decode cX8_isHeld 58 = .ok (.goto 4, 3) := by decide +kernel
theorem dX8_isHeld_61 : decode cX8_isHeld 61 = .ok (.iconst 0, 1) := by decide +kernel
theorem dX8_isHeld_62 : decode cX8_isHeld 62 = .ok (.ireturn, 1) := by decide +kernel
theorem dX8_clashes_0 : decode cX8_clashes 0 = .ok (.aload_n 0, 1) := by decide +kernel
theorem dX8_clashes_1 : decode cX8_clashes 1 = .ok (.getfield 22, 3) := by decide +kernel
theorem dX8_clashes_4 : decode cX8_clashes 4 = .ok (.aload_n 0, 1) := by decide +kernel
theorem dX8_clashes_5 : decode cX8_clashes 5 = .ok (.getfield 100, 3) := by decide +kernel
theorem dX8_clashes_8 : decode cX8_clashes 8 = .ok (.aload_n 0, 1) := by decide +kernel
theorem dX8_clashes_9 : decode cX8_clashes 9 = .ok (.getfield 116, 3) := by decide +kernel
theorem dX8_clashes_12 : decode cX8_clashes 12 = .ok (.invokevirtual 137, 3) := by decide +kernel
theorem dX8_clashes_15 : decode cX8_clashes 15 = .ok (.lstore_n 1, 1) := by decide +kernel
theorem dX8_clashes_16 : decode cX8_clashes 16 = .ok (.aload_n 0, 1) := by decide +kernel
theorem dX8_clashes_17 : decode cX8_clashes 17 = .ok (.getfield 22, 3) := by decide +kernel
theorem dX8_clashes_20 : decode cX8_clashes 20 = .ok (.aload_n 0, 1) := by decide +kernel
theorem dX8_clashes_21 : decode cX8_clashes 21 = .ok (.getfield 100, 3) := by decide +kernel
theorem dX8_clashes_24 : decode cX8_clashes 24 = .ok (.aload_n 0, 1) := by decide +kernel
theorem dX8_clashes_25 : decode cX8_clashes 25 = .ok (.getfield 116, 3) := by decide +kernel
theorem dX8_clashes_28 : decode cX8_clashes 28 = .ok (.invokevirtual 119, 3) := by decide +kernel
theorem dX8_clashes_31 : decode cX8_clashes 31 = .ok (.lstore_n 3, 1) := by decide +kernel
theorem dX8_clashes_32 : decode cX8_clashes 32 = .ok (.iconst 0, 1) := by decide +kernel
theorem dX8_clashes_33 : decode cX8_clashes 33 = .ok (.istore 5, 2) := by decide +kernel
theorem dX8_clashes_35 : decode cX8_clashes 35 = .ok (.iconst 0, 1) := by decide +kernel
theorem dX8_clashes_36 : decode cX8_clashes 36 = .ok (.istore 6, 2) := by decide +kernel
theorem dX8_clashes_38 : decode cX8_clashes 38 = .ok (.iload 6, 2) := by decide +kernel
theorem dX8_clashes_40 : decode cX8_clashes 40 = .ok (.bipush 8, 2) := by decide +kernel
theorem dX8_clashes_42 : decode cX8_clashes 42 = .ok (.if_icmp .ge 50, 3) := by decide +kernel
theorem dX8_clashes_45 : decode cX8_clashes 45 = .ok (.aload_n 0, 1) := by decide +kernel
theorem dX8_clashes_46 : decode cX8_clashes 46 = .ok (.getfield 9, 3) := by decide +kernel
theorem dX8_clashes_49 : decode cX8_clashes 49 = .ok (.getfield 140, 3) := by decide +kernel
theorem dX8_clashes_52 : decode cX8_clashes 52 = .ok (.iload 6, 2) := by decide +kernel
theorem dX8_clashes_54 : decode cX8_clashes 54 = .ok (.baload, 1) := by decide +kernel
theorem dX8_clashes_55 : decode cX8_clashes 55 = .ok (.ifCond .eq 31, 3) := by decide +kernel
theorem dX8_clashes_58 : decode cX8_clashes 58 = .ok (.aload_n 0, 1) := by decide +kernel
theorem dX8_clashes_59 : decode cX8_clashes 59 = .ok (.aload_n 0, 1) := by decide +kernel
theorem dX8_clashes_60 : decode cX8_clashes 60 = .ok (.getfield 9, 3) := by decide +kernel
theorem dX8_clashes_63 : decode cX8_clashes 63 = .ok (.getfield 143, 3) := by decide +kernel
theorem dX8_clashes_66 : decode cX8_clashes 66 = .ok (.iload 6, 2) := by decide +kernel
theorem dX8_clashes_68 : decode cX8_clashes 68 = .ok (.aaload, 1) := by decide +kernel
theorem dX8_clashes_69 : decode cX8_clashes 69 = .ok (.lload_n 1, 1) := by decide +kernel
theorem dX8_clashes_70 : decode cX8_clashes 70 = .ok (.lload_n 3, 1) := by decide +kernel
theorem dX8_clashes_71 : decode cX8_clashes 71 = .ok (.invokevirtual 147, 3) := by decide +kernel
theorem dX8_clashes_74 : decode cX8_clashes 74 = .ok (.ifCond .eq 12, 3) := by decide +kernel
theorem dX8_clashes_77 : decode cX8_clashes 77 = .ok (.iload 5, 2) := by decide +kernel
theorem dX8_clashes_79 : decode cX8_clashes 79 = .ok (.iconst 1, 1) := by decide +kernel
theorem dX8_clashes_80 : decode cX8_clashes 80 = .ok (.iload 6, 2) := by decide +kernel
theorem dX8_clashes_82 : decode cX8_clashes 82 = .ok (.ishl, 1) := by decide +kernel
theorem dX8_clashes_83 : decode cX8_clashes 83 = .ok (.ior, 1) := by decide +kernel
theorem dX8_clashes_84 : decode cX8_clashes 84 = .ok (.istore 5, 2) := by decide +kernel
theorem dX8_clashes_86 : decode cX8_clashes 86 = .ok (.iinc 6 1, 3) := by decide +kernel
theorem dX8_clashes_89 : decode cX8_clashes 89 = .ok (.goto (-51), 3) := by decide +kernel
theorem dX8_clashes_92 : decode cX8_clashes 92 = .ok (.iload 5, 2) := by decide +kernel
theorem dX8_clashes_94 : decode cX8_clashes 94 = .ok (.ireturn, 1) := by decide +kernel
theorem dX8_isGood_0 : decode cX8_isGood 0 = .ok (.aload_n 0, 1) := by decide +kernel
theorem dX8_isGood_1 : decode cX8_isGood 1 = .ok (.iload_n 1, 1) := by decide +kernel
theorem dX8_isGood_2 : decode cX8_isGood 2 = .ok (.invokevirtual 151, 3) := by decide +kernel
theorem dX8_isGood_5 : decode cX8_isGood 5 = .ok (.aload_n 0, 1) := by decide +kernel
theorem dX8_isGood_6 : decode cX8_isGood 6 = .ok (.getfield 15, 3) := by decide +kernel
theorem dX8_isGood_9 : decode cX8_isGood 9 = .ok (.getfield 155, 3) := by decide +kernel
theorem dX8_isGood_12 : decode cX8_isGood 12 = .ok (.iload_n 1, 1) := by decide +kernel
theorem dX8_isGood_13 : decode cX8_isGood 13 = .ok (.baload, 1) := by decide +kernel
theorem dX8_isGood_14 : decode cX8_isGood 14 = .ok (.ifCond .eq 21, 3) := by decide +kernel
theorem dX8_isGood_17 : decode cX8_isGood 17 = .ok (.aload_n 0, 1) := by decide +kernel
theorem dX8_isGood_18 : decode cX8_isGood 18 = .ok (.invokevirtual 158, 3) := by decide +kernel
theorem dX8_isGood_21 : decode cX8_isGood 21 = .ok (.ifCond .eq 14, 3) := by decide +kernel
theorem dX8_isGood_24 : decode cX8_isGood 24 = .ok (.aload_n 0, 1) := by decide +kernel
theorem dX8_isGood_25 : decode cX8_isGood 25 = .ok (.invokevirtual 162, 3) := by decide +kernel
theorem dX8_isGood_28 : decode cX8_isGood 28 = .ok (.ifCond .ne 7, 3) := by decide +kernel
theorem dX8_isGood_31 : decode cX8_isGood 31 = .ok (.iconst 1, 1) := by decide +kernel
theorem dX8_isGood_32 : decode cX8_isGood 32 = .ok (.goto 4, 3) := by decide +kernel
theorem dX8_isGood_35 : decode cX8_isGood 35 = .ok (.iconst 0, 1) := by decide +kernel
theorem dX8_isGood_36 : decode cX8_isGood 36 = .ok (.ireturn, 1) := by decide +kernel
theorem dX8_countsOfAll_0 : decode cX8_countsOfAll 0 = .ok (.iconst 0, 1) := by decide +kernel
theorem dX8_countsOfAll_1 : decode cX8_countsOfAll 1 = .ok (.istore_n 1, 1) := by decide +kernel
theorem dX8_countsOfAll_2 : decode cX8_countsOfAll 2 = .ok (.iconst 0, 1) := by decide +kernel
theorem dX8_countsOfAll_3 : decode cX8_countsOfAll 3 = .ok (.istore_n 2, 1) := by decide +kernel
theorem dX8_countsOfAll_4 : decode cX8_countsOfAll 4 = .ok (.iconst 0, 1) := by decide +kernel
theorem dX8_countsOfAll_5 : decode cX8_countsOfAll 5 = .ok (.istore_n 3, 1) := by decide +kernel
theorem dX8_countsOfAll_6 : decode cX8_countsOfAll 6 = .ok (.iload_n 3, 1) := by decide +kernel
theorem dX8_countsOfAll_7 : decode cX8_countsOfAll 7 = .ok (.aload_n 0, 1) := by decide +kernel
theorem dX8_countsOfAll_8 : decode cX8_countsOfAll 8 = .ok (.getfield 15, 3) := by decide +kernel
theorem dX8_countsOfAll_11 : decode cX8_countsOfAll 11 = .ok (.getfield 176, 3) := by decide +kernel
theorem dX8_countsOfAll_14 : decode cX8_countsOfAll 14 = .ok (.if_icmp .gt 41, 3) := by decide +kernel
theorem dX8_countsOfAll_17 : decode cX8_countsOfAll 17 = .ok (.aload_n 0, 1) := by decide +kernel
theorem dX8_countsOfAll_18 : decode cX8_countsOfAll 18 = .ok (.getfield 15, 3) := by decide +kernel
theorem dX8_countsOfAll_21 : decode cX8_countsOfAll 21 = .ok (.iload_n 3, 1) := by decide +kernel
theorem dX8_countsOfAll_22 : decode cX8_countsOfAll 22 = .ok (.invokevirtual 179, 3) := by decide +kernel
theorem dX8_countsOfAll_25 : decode cX8_countsOfAll 25 = .ok (.ifCond .ne 20, 3) := by decide +kernel
theorem dX8_countsOfAll_28 : decode cX8_countsOfAll 28 = .ok (.aload_n 0, 1) := by decide +kernel
theorem dX8_countsOfAll_29 : decode cX8_countsOfAll 29 = .ok (.iload_n 3, 1) := by decide +kernel
theorem dX8_countsOfAll_30 : decode cX8_countsOfAll 30 = .ok (.invokevirtual 182, 3) := by decide +kernel
theorem dX8_countsOfAll_33 : decode cX8_countsOfAll 33 = .ok (.ifCond .eq 10, 3) := by decide +kernel
theorem dX8_countsOfAll_36 : decode cX8_countsOfAll 36 = .ok (.aload_n 0, 1) := by decide +kernel
theorem dX8_countsOfAll_37 : decode cX8_countsOfAll 37 = .ok (.invokevirtual 188, 3) := by decide +kernel
theorem dX8_countsOfAll_40 : decode cX8_countsOfAll 40 = .ok (.goto 4, 3) := by decide +kernel
theorem dX8_countsOfAll_43 : decode cX8_countsOfAll 43 = .ok (.iconst 0, 1) := by decide +kernel
theorem dX8_countsOfAll_44 : decode cX8_countsOfAll 44 = .ok (.istore_n 2, 1) := by decide +kernel
theorem dX8_countsOfAll_45 : decode cX8_countsOfAll 45 = .ok (.iload_n 1, 1) := by decide +kernel
theorem dX8_countsOfAll_46 : decode cX8_countsOfAll 46 = .ok (.iload_n 2, 1) := by decide +kernel
theorem dX8_countsOfAll_47 : decode cX8_countsOfAll 47 = .ok (.iadd, 1) := by decide +kernel
theorem dX8_countsOfAll_48 : decode cX8_countsOfAll 48 = .ok (.istore_n 1, 1) := by decide +kernel
theorem dX8_countsOfAll_49 : decode cX8_countsOfAll 49 = .ok (.iinc 3 1, 3) := by decide +kernel
theorem dX8_countsOfAll_52 : decode cX8_countsOfAll 52 = .ok (.goto (-46), 3) := by decide +kernel
theorem dX8_countsOfAll_55 : decode cX8_countsOfAll 55 = .ok (.iload_n 1, 1) := by decide +kernel
theorem dX8_countsOfAll_56 : decode cX8_countsOfAll 56 = .ok (.ireturn, 1) := by decide +kernel
theorem dX8_seatsSeeing_0 : decode cX8_seatsSeeing 0 = .ok (.iconst 0, 1) := by decide +kernel
theorem dX8_seatsSeeing_1 : decode cX8_seatsSeeing 1 = .ok (.istore_n 1, 1) := by decide +kernel
theorem dX8_seatsSeeing_2 : decode cX8_seatsSeeing 2 = .ok (.iconst 0, 1) := by decide +kernel
theorem dX8_seatsSeeing_3 : decode cX8_seatsSeeing 3 = .ok (.istore_n 2, 1) := by decide +kernel
theorem dX8_seatsSeeing_4 : decode cX8_seatsSeeing 4 = .ok (.iload_n 2, 1) := by decide +kernel
theorem dX8_seatsSeeing_5 : decode cX8_seatsSeeing 5 = .ok (.bipush 8, 2) := by decide +kernel
theorem dX8_seatsSeeing_7 : decode cX8_seatsSeeing 7 = .ok (.if_icmp .ge 32, 3) := by decide +kernel
theorem dX8_seatsSeeing_10 : decode cX8_seatsSeeing 10 = .ok (.aload_n 0, 1) := by decide +kernel
theorem dX8_seatsSeeing_11 : decode cX8_seatsSeeing 11 = .ok (.getfield 9, 3) := by decide +kernel
theorem dX8_seatsSeeing_14 : decode cX8_seatsSeeing 14 = .ok (.getfield 75, 3) := by decide +kernel
theorem dX8_seatsSeeing_17 : decode cX8_seatsSeeing 17 = .ok (.iload_n 2, 1) := by decide +kernel
theorem dX8_seatsSeeing_18 : decode cX8_seatsSeeing 18 = .ok (.baload, 1) := by decide +kernel
theorem dX8_seatsSeeing_19 : decode cX8_seatsSeeing 19 = .ok (.ifCond .eq 14, 3) := by decide +kernel
theorem dX8_seatsSeeing_22 : decode cX8_seatsSeeing 22 = .ok (.aload_n 0, 1) := by decide +kernel
theorem dX8_seatsSeeing_23 : decode cX8_seatsSeeing 23 = .ok (.iload_n 2, 1) := by decide +kernel
theorem dX8_seatsSeeing_24 : decode cX8_seatsSeeing 24 = .ok (.invokevirtual 185, 3) := by decide +kernel
theorem dX8_seatsSeeing_27 : decode cX8_seatsSeeing 27 = .ok (.ifCond .eq 6, 3) := by decide +kernel
theorem dX8_seatsSeeing_30 : decode cX8_seatsSeeing 30 = .ok (.iinc 1 1, 3) := by decide +kernel
theorem dX8_seatsSeeing_33 : decode cX8_seatsSeeing 33 = .ok (.iinc 2 1, 3) := by decide +kernel
theorem dX8_seatsSeeing_36 : decode cX8_seatsSeeing 36 = .ok (.goto (-32), 3) := by decide +kernel
theorem dX8_seatsSeeing_39 : decode cX8_seatsSeeing 39 = .ok (.iload_n 1, 1) := by decide +kernel
theorem dX8_seatsSeeing_40 : decode cX8_seatsSeeing 40 = .ok (.ireturn, 1) := by decide +kernel
theorem dX8_markFaces_0 : decode cX8_markFaces 0 = .ok (.iconst 0, 1) := by decide +kernel
theorem dX8_markFaces_1 : decode cX8_markFaces 1 = .ok (.istore_n 2, 1) := by decide +kernel
theorem dX8_markFaces_2 : decode cX8_markFaces 2 = .ok (.iload_n 2, 1) := by decide +kernel
theorem dX8_markFaces_3 : decode cX8_markFaces 3 = .ok (.aload_n 0, 1) := by decide +kernel
theorem dX8_markFaces_4 : decode cX8_markFaces 4 = .ok (.getfield 15, 3) := by decide +kernel
theorem dX8_markFaces_7 : decode cX8_markFaces 7 = .ok (.getfield 176, 3) := by decide +kernel
theorem dX8_markFaces_10 : decode cX8_markFaces 10 = .ok (.if_icmp .gt 42, 3) := by decide +kernel
theorem dX8_markFaces_13 : decode cX8_markFaces 13 = .ok (.aload_n 0, 1) := by decide +kernel
theorem dX8_markFaces_14 : decode cX8_markFaces 14 = .ok (.getfield 15, 3) := by decide +kernel
theorem dX8_markFaces_17 : decode cX8_markFaces 17 = .ok (.getfield 155, 3) := by decide +kernel
theorem dX8_markFaces_20 : decode cX8_markFaces 20 = .ok (.iload_n 2, 1) := by decide +kernel
theorem dX8_markFaces_21 : decode cX8_markFaces 21 = .ok (.baload, 1) := by decide +kernel
theorem dX8_markFaces_22 : decode cX8_markFaces 22 = .ok (.ifCond .eq 24, 3) := by decide +kernel
theorem dX8_markFaces_25 : decode cX8_markFaces 25 = .ok (.aload_n 0, 1) := by decide +kernel
theorem dX8_markFaces_26 : decode cX8_markFaces 26 = .ok (.getfield 15, 3) := by decide +kernel
theorem dX8_markFaces_29 : decode cX8_markFaces 29 = .ok (.iload_n 2, 1) := by decide +kernel
theorem dX8_markFaces_30 : decode cX8_markFaces 30 = .ok (.invokevirtual 179, 3) := by decide +kernel
theorem dX8_markFaces_33 : decode cX8_markFaces 33 = .ok (.ifCond .ne 13, 3) := by decide +kernel
theorem dX8_markFaces_36 : decode cX8_markFaces 36 = .ok (.aload_n 0, 1) := by decide +kernel
theorem dX8_markFaces_37 : decode cX8_markFaces 37 = .ok (.iload_n 2, 1) := by decide +kernel
theorem dX8_markFaces_38 : decode cX8_markFaces 38 = .ok (.invokevirtual 151, 3) := by decide +kernel
theorem dX8_markFaces_41 : decode cX8_markFaces 41 = .ok (.aload_n 0, 1) := by decide +kernel
theorem dX8_markFaces_42 : decode cX8_markFaces 42 = .ok (.aload_n 1, 1) := by decide +kernel
theorem dX8_markFaces_43 : decode cX8_markFaces 43 = .ok (.invokevirtual 191, 3) := by decide +kernel
theorem dX8_markFaces_46 : decode cX8_markFaces 46 = .ok (.iinc 2 1, 3) := by decide +kernel
theorem dX8_markFaces_49 : decode cX8_markFaces 49 = .ok (.goto (-47), 3) := by decide +kernel
theorem dX8_markFaces_52 : decode cX8_markFaces 52 = .ok (.return_, 1) := by decide +kernel
theorem dX8_markFacesHere_0 : decode cX8_markFacesHere 0 = .ok (.iconst 0, 1) := by decide +kernel
theorem dX8_markFacesHere_1 : decode cX8_markFacesHere 1 = .ok (.istore_n 2, 1) := by decide +kernel
theorem dX8_markFacesHere_2 : decode cX8_markFacesHere 2 = .ok (.iload_n 2, 1) := by decide +kernel
theorem dX8_markFacesHere_3 : decode cX8_markFacesHere 3 = .ok (.bipush 8, 2) := by decide +kernel
theorem dX8_markFacesHere_5 : decode cX8_markFacesHere 5 = .ok (.if_icmp .ge 40, 3) := by decide +kernel
theorem dX8_markFacesHere_8 : decode cX8_markFacesHere 8 = .ok (.aload_n 0, 1) := by decide +kernel
theorem dX8_markFacesHere_9 : decode cX8_markFacesHere 9 = .ok (.getfield 9, 3) := by decide +kernel
theorem dX8_markFacesHere_12 : decode cX8_markFacesHere 12 = .ok (.getfield 75, 3) := by decide +kernel
theorem dX8_markFacesHere_15 : decode cX8_markFacesHere 15 = .ok (.iload_n 2, 1) := by decide +kernel
theorem dX8_markFacesHere_16 : decode cX8_markFacesHere 16 = .ok (.baload, 1) := by decide +kernel
theorem dX8_markFacesHere_17 : decode cX8_markFacesHere 17 = .ok (.ifCond .eq 22, 3) := by decide +kernel
theorem dX8_markFacesHere_20 : decode cX8_markFacesHere 20 = .ok (.aload_n 0, 1) := by decide +kernel
theorem dX8_markFacesHere_21 : decode cX8_markFacesHere 21 = .ok (.iload_n 2, 1) := by decide +kernel
theorem dX8_markFacesHere_22 : decode cX8_markFacesHere 22 = .ok (.invokevirtual 173, 3) := by decide +kernel
theorem dX8_markFacesHere_25 : decode cX8_markFacesHere 25 = .ok (.ifCond .eq 14, 3) := by decide +kernel
theorem dX8_markFacesHere_28 : decode cX8_markFacesHere 28 = .ok (.aload_n 1, 1) := by decide +kernel
theorem dX8_markFacesHere_29 : decode cX8_markFacesHere 29 = .ok (.aload_n 0, 1) := by decide +kernel
theorem dX8_markFacesHere_30 : decode cX8_markFacesHere 30 = .ok (.getfield 22, 3) := by decide +kernel
theorem dX8_markFacesHere_33 : decode cX8_markFacesHere 33 = .ok (.invokevirtual 195, 3) := by decide +kernel
theorem dX8_markFacesHere_36 : decode cX8_markFacesHere 36 = .ok (.invokevirtual 198, 3) := by decide +kernel
theorem dX8_markFacesHere_39 : decode cX8_markFacesHere 39 = .ok (.iinc 2 1, 3) := by decide +kernel
theorem dX8_markFacesHere_42 : decode cX8_markFacesHere 42 = .ok (.goto (-40), 3) := by decide +kernel
theorem dX8_markFacesHere_45 : decode cX8_markFacesHere 45 = .ok (.return_, 1) := by decide +kernel
theorem dX9_init_0 : decode cX9_init 0 = .ok (.aload_n 0, 1) := by decide +kernel
theorem dX9_init_1 : decode cX9_init 1 = .ok (.invokespecial 3, 3) := by decide +kernel
theorem dX9_init_4 : decode cX9_init 4 = .ok (.aload_n 0, 1) := by decide +kernel
theorem dX9_init_5 : decode cX9_init 5 = .ok (.iconst 0, 1) := by decide +kernel
theorem dX9_init_6 : decode cX9_init 6 = .ok (.putfield 9, 3) := by decide +kernel
theorem dX9_init_9 : decode cX9_init 9 = .ok (.aload_n 0, 1) := by decide +kernel
theorem dX9_init_10 : decode cX9_init 10 = .ok (.iconst (-1), 1) := by decide +kernel
theorem dX9_init_11 : decode cX9_init 11 = .ok (.putfield 15, 3) := by decide +kernel
theorem dX9_init_14 : decode cX9_init 14 = .ok (.aload_n 0, 1) := by decide +kernel
theorem dX9_init_15 : decode cX9_init 15 = .ok (.sipush 600, 3) := by decide +kernel
theorem dX9_init_18 : decode cX9_init 18 = .ok (.newarray .byte, 2) := by decide +kernel
theorem dX9_init_20 : decode cX9_init 20 = .ok (.putfield 18, 3) := by decide +kernel
theorem dX9_init_23 : decode cX9_init 23 = .ok (.return_, 1) := by decide +kernel
theorem dX9_hasRoom_0 : decode cX9_hasRoom 0 = .ok (.aload_n 0, 1) := by decide +kernel
theorem dX9_hasRoom_1 : decode cX9_hasRoom 1 = .ok (.getfield 22, 3) := by decide +kernel
theorem dX9_hasRoom_4 : decode cX9_hasRoom 4 = .ok (.bipush 20, 2) := by decide +kernel
theorem dX9_hasRoom_6 : decode cX9_hasRoom 6 = .ok (.iadd, 1) := by decide +kernel
theorem dX9_hasRoom_7 : decode cX9_hasRoom 7 = .ok (.sipush 600, 3) := by decide +kernel
theorem dX9_hasRoom_10 : decode cX9_hasRoom 10 = .ok (.if_icmp .gt 7, 3) := by decide +kernel
theorem dX9_hasRoom_13 : decode cX9_hasRoom 13 = .ok (.iconst 1, 1) := by decide +kernel
theorem dX9_hasRoom_14 : decode cX9_hasRoom 14 = .ok (.goto 4, 3) := by decide +kernel
theorem dX9_hasRoom_17 : decode cX9_hasRoom 17 = .ok (.iconst 0, 1) := by decide +kernel
theorem dX9_hasRoom_18 : decode cX9_hasRoom 18 = .ok (.ireturn, 1) := by decide +kernel
theorem dX9_append_0 : decode cX9_append 0 = .ok (.bipush 24, 2) := by decide +kernel
theorem dX9_append_2 : decode cX9_append 2 = .ok (.istore_n 2, 1) := by decide +kernel
theorem dX9_append_3 : decode cX9_append 3 = .ok (.iload_n 2, 1) := by decide +kernel
theorem dX9_append_4 : decode cX9_append 4 = .ok (.ifCond .lt 42, 3) := by decide +kernel
theorem dX9_append_7 : decode cX9_append 7 = .ok (.aload_n 0, 1) := by decide +kernel
theorem dX9_append_8 : decode cX9_append 8 = .ok (.getfield 22, 3) := by decide +kernel
theorem dX9_append_11 : decode cX9_append 11 = .ok (.sipush 600, 3) := by decide +kernel
theorem dX9_append_14 : decode cX9_append 14 = .ok (.if_icmp .ge 32, 3) := by decide +kernel
theorem dX9_append_17 : decode cX9_append 17 = .ok (.aload_n 0, 1) := by decide +kernel
theorem dX9_append_18 : decode cX9_append 18 = .ok (.getfield 18, 3) := by decide +kernel
theorem dX9_append_21 : decode cX9_append 21 = .ok (.aload_n 0, 1) := by decide +kernel
theorem dX9_append_22 : decode cX9_append 22 = .ok (.getfield 22, 3) := by decide +kernel
theorem dX9_append_25 : decode cX9_append 25 = .ok (.iload_n 1, 1) := by decide +kernel
theorem dX9_append_26 : decode cX9_append 26 = .ok (.iload_n 2, 1) := by decide +kernel
theorem dX9_append_27 : decode cX9_append 27 = .ok (.iushr, 1) := by decide +kernel
theorem dX9_append_28 : decode cX9_append 28 = .ok (.i2b, 1) := by decide +kernel
theorem dX9_append_29 : decode cX9_append 29 = .ok (.bastore, 1) := by decide +kernel
theorem dX9_append_30 : decode cX9_append 30 = .ok (.aload_n 0, 1) := by decide +kernel
theorem dX9_append_31 : decode cX9_append 31 = .ok (.dup, 1) := by decide +kernel
theorem dX9_append_32 : decode cX9_append 32 = .ok (.getfield 22, 3) := by decide +kernel
theorem dX9_append_35 : decode cX9_append 35 = .ok (.iconst 1, 1) := by decide +kernel
theorem dX9_append_36 : decode cX9_append 36 = .ok (.iadd, 1) := by decide +kernel
theorem dX9_append_37 : decode cX9_append 37 = .ok (.putfield 22, 3) := by decide +kernel
theorem dX9_append_40 : decode cX9_append 40 = .ok (.iinc 2 (-8), 3) := by decide +kernel
theorem dX9_append_43 : decode cX9_append 43 = .ok (.goto (-40), 3) := by decide +kernel
theorem dX9_append_46 : decode cX9_append 46 = .ok (.return_, 1) := by decide +kernel
theorem dX9_rewind_0 : decode cX9_rewind 0 = .ok (.aload_n 0, 1) := by decide +kernel
theorem dX9_rewind_1 : decode cX9_rewind 1 = .ok (.iconst 0, 1) := by decide +kernel
theorem dX9_rewind_2 : decode cX9_rewind 2 = .ok (.putfield 25, 3) := by decide +kernel
theorem dX9_rewind_5 : decode cX9_rewind 5 = .ok (.aload_n 0, 1) := by decide +kernel
theorem dX9_rewind_6 : decode cX9_rewind 6 = .ok (.iconst 0, 1) := by decide +kernel
theorem dX9_rewind_7 : decode cX9_rewind 7 = .ok (.putfield 9, 3) := by decide +kernel
theorem dX9_rewind_10 : decode cX9_rewind 10 = .ok (.aload_n 0, 1) := by decide +kernel
theorem dX9_rewind_11 : decode cX9_rewind 11 = .ok (.iconst (-1), 1) := by decide +kernel
theorem dX9_rewind_12 : decode cX9_rewind 12 = .ok (.putfield 15, 3) := by decide +kernel
theorem dX9_rewind_15 : decode cX9_rewind 15 = .ok (.return_, 1) := by decide +kernel
theorem dX9_isRead_0 : decode cX9_isRead 0 = .ok (.aload_n 0, 1) := by decide +kernel
theorem dX9_isRead_1 : decode cX9_isRead 1 = .ok (.getfield 25, 3) := by decide +kernel
theorem dX9_isRead_4 : decode cX9_isRead 4 = .ok (.aload_n 0, 1) := by decide +kernel
theorem dX9_isRead_5 : decode cX9_isRead 5 = .ok (.getfield 22, 3) := by decide +kernel
theorem dX9_isRead_8 : decode cX9_isRead 8 = .ok (.if_icmp .lt 7, 3) := by decide +kernel
theorem dX9_isRead_11 : decode cX9_isRead 11 = .ok (.iconst 1, 1) := by decide +kernel
theorem dX9_isRead_12 : decode cX9_isRead 12 = .ok (.goto 4, 3) := by decide +kernel
theorem dX9_isRead_15 : decode cX9_isRead 15 = .ok (.iconst 0, 1) := by decide +kernel
theorem dX9_isRead_16 : decode cX9_isRead 16 = .ok (.ireturn, 1) := by decide +kernel
theorem dX9_skipBlanks_0 : decode cX9_skipBlanks 0 = .ok (.aload_n 0, 1) := by decide +kernel
theorem dX9_skipBlanks_1 : decode cX9_skipBlanks 1 = .ok (.getfield 25, 3) := by decide +kernel
theorem dX9_skipBlanks_4 : decode cX9_skipBlanks 4 = .ok (.aload_n 0, 1) := by decide +kernel
theorem dX9_skipBlanks_5 : decode cX9_skipBlanks 5 = .ok (.getfield 22, 3) := by decide +kernel
theorem dX9_skipBlanks_8 : decode cX9_skipBlanks 8 = .ok (.if_icmp .ge 44, 3) := by decide +kernel
theorem dX9_skipBlanks_11 : decode cX9_skipBlanks 11 = .ok (.aload_n 0, 1) := by decide +kernel
theorem dX9_skipBlanks_12 : decode cX9_skipBlanks 12 = .ok (.getfield 18, 3) := by decide +kernel
theorem dX9_skipBlanks_15 : decode cX9_skipBlanks 15 = .ok (.aload_n 0, 1) := by decide +kernel
theorem dX9_skipBlanks_16 : decode cX9_skipBlanks 16 = .ok (.getfield 25, 3) := by decide +kernel
theorem dX9_skipBlanks_19 : decode cX9_skipBlanks 19 = .ok (.baload, 1) := by decide +kernel
theorem dX9_skipBlanks_20 : decode cX9_skipBlanks 20 = .ok (.bipush 10, 2) := by decide +kernel
theorem dX9_skipBlanks_22 : decode cX9_skipBlanks 22 = .ok (.if_icmp .eq 17, 3) := by decide +kernel
theorem dX9_skipBlanks_25 : decode cX9_skipBlanks 25 = .ok (.aload_n 0, 1) := by decide +kernel
theorem dX9_skipBlanks_26 : decode cX9_skipBlanks 26 = .ok (.getfield 18, 3) := by decide +kernel
theorem dX9_skipBlanks_29 : decode cX9_skipBlanks 29 = .ok (.aload_n 0, 1) := by decide +kernel
theorem dX9_skipBlanks_30 : decode cX9_skipBlanks 30 = .ok (.getfield 25, 3) := by decide +kernel
theorem dX9_skipBlanks_33 : decode cX9_skipBlanks 33 = .ok (.baload, 1) := by decide +kernel
theorem dX9_skipBlanks_34 : decode cX9_skipBlanks 34 = .ok (.bipush 32, 2) := by decide +kernel
theorem dX9_skipBlanks_36 : decode cX9_skipBlanks 36 = .ok (.if_icmp .ne 16, 3) := by decide +kernel
theorem dX9_skipBlanks_39 : decode cX9_skipBlanks 39 = .ok (.aload_n 0, 1) := by decide +kernel
theorem dX9_skipBlanks_40 : decode cX9_skipBlanks 40 = .ok (.dup, 1) := by decide +kernel
theorem dX9_skipBlanks_41 : decode cX9_skipBlanks 41 = .ok (.getfield 25, 3) := by decide +kernel
theorem dX9_skipBlanks_44 : decode cX9_skipBlanks 44 = .ok (.iconst 1, 1) := by decide +kernel
theorem dX9_skipBlanks_45 : decode cX9_skipBlanks 45 = .ok (.iadd, 1) := by decide +kernel
theorem dX9_skipBlanks_46 : decode cX9_skipBlanks 46 = .ok (.putfield 25, 3) := by decide +kernel
theorem dX9_skipBlanks_49 : decode cX9_skipBlanks 49 = .ok (.goto (-49), 3) := by decide +kernel
theorem dX9_skipBlanks_52 : decode cX9_skipBlanks 52 = .ok (.return_, 1) := by decide +kernel
theorem dX10_init_0 : decode cX10_init 0 = .ok (.aload_n 0, 1) := by decide +kernel
theorem dX10_init_1 : decode cX10_init 1 = .ok (.invokespecial 3, 3) := by decide +kernel
theorem dX10_init_4 : decode cX10_init 4 = .ok (.aload_n 0, 1) := by decide +kernel
theorem dX10_init_5 : decode cX10_init 5 = .ok (.sipush 241, 3) := by decide +kernel
theorem dX10_init_8 : decode cX10_init 8 = .ok (.newarray .int, 2) := by decide +kernel
theorem dX10_init_10 : decode cX10_init 10 = .ok (.putfield 9, 3) := by decide +kernel
theorem dX10_init_13 : decode cX10_init 13 = .ok (.aload_n 0, 1) := by decide +kernel
theorem dX10_init_14 : decode cX10_init 14 = .ok (.sipush 241, 3) := by decide +kernel
theorem dX10_init_17 : decode cX10_init 17 = .ok (.newarray .int, 2) := by decide +kernel
theorem dX10_init_19 : decode cX10_init 19 = .ok (.putfield 15, 3) := by decide +kernel
theorem dX10_init_22 : decode cX10_init 22 = .ok (.aload_n 0, 1) := by decide +kernel
theorem dX10_init_23 : decode cX10_init 23 = .ok (.sipush 241, 3) := by decide +kernel
theorem dX10_init_26 : decode cX10_init 26 = .ok (.newarray .boolean, 2) := by decide +kernel
theorem dX10_init_28 : decode cX10_init 28 = .ok (.putfield 18, 3) := by decide +kernel
theorem dX10_init_31 : decode cX10_init 31 = .ok (.aload_n 0, 1) := by decide +kernel
theorem dX10_init_32 : decode cX10_init 32 = .ok (.bipush 80, 2) := by decide +kernel
theorem dX10_init_34 : decode cX10_init 34 = .ok (.newarray .int, 2) := by decide +kernel
theorem dX10_init_36 : decode cX10_init 36 = .ok (.putfield 22, 3) := by decide +kernel
theorem dX10_init_39 : decode cX10_init 39 = .ok (.aload_n 0, 1) := by decide +kernel
theorem dX10_init_40 : decode cX10_init 40 = .ok (.bipush 80, 2) := by decide +kernel
theorem dX10_init_42 : decode cX10_init 42 = .ok (.newarray .int, 2) := by decide +kernel
theorem dX10_init_44 : decode cX10_init 44 = .ok (.putfield 25, 3) := by decide +kernel
theorem dX10_init_47 : decode cX10_init 47 = .ok (.aload_n 0, 1) := by decide +kernel
theorem dX10_init_48 : decode cX10_init 48 = .ok (.getfield 18, 3) := by decide +kernel
theorem dX10_init_51 : decode cX10_init 51 = .ok (.iconst 0, 1) := by decide +kernel
theorem dX10_init_52 : decode cX10_init 52 = .ok (.iconst 1, 1) := by decide +kernel
theorem dX10_init_53 : decode cX10_init 53 = .ok (.bastore, 1) := by decide +kernel
theorem dX10_init_54 : decode cX10_init 54 = .ok (.return_, 1) := by decide +kernel
theorem dX10_hasCount_0 : decode cX10_hasCount 0 = .ok (.iload_n 1, 1) := by decide +kernel
theorem dX10_hasCount_1 : decode cX10_hasCount 1 = .ok (.ifCond .lt 15, 3) := by decide +kernel
theorem dX10_hasCount_4 : decode cX10_hasCount 4 = .ok (.iload_n 1, 1) := by decide +kernel
theorem dX10_hasCount_5 : decode cX10_hasCount 5 = .ok (.aload_n 0, 1) := by decide +kernel
theorem dX10_hasCount_6 : decode cX10_hasCount 6 = .ok (.getfield 28, 3) := by decide +kernel
theorem dX10_hasCount_9 : decode cX10_hasCount 9 = .ok (.if_icmp .gt 7, 3) := by decide +kernel
theorem dX10_hasCount_12 : decode cX10_hasCount 12 = .ok (.iconst 1, 1) := by decide +kernel
theorem dX10_hasCount_13 : decode cX10_hasCount 13 = .ok (.goto 4, 3) := by decide +kernel
theorem dX10_hasCount_16 : decode cX10_hasCount 16 = .ok (.iconst 0, 1) := by decide +kernel
theorem dX10_hasCount_17 : decode cX10_hasCount 17 = .ok (.ireturn, 1) := by decide +kernel
theorem dX10_isAsBefore_0 : decode cX10_isAsBefore 0 = .ok (.iload_n 1, 1) := by decide +kernel
theorem dX10_isAsBefore_1 : decode cX10_isAsBefore 1 = .ok (.ifCond .le 58, 3) := by decide +kernel
theorem dX10_isAsBefore_4 : decode cX10_isAsBefore 4 = .ok (.aload_n 0, 1) := by decide +kernel
theorem dX10_isAsBefore_5 : decode cX10_isAsBefore 5 = .ok (.getfield 9, 3) := by decide +kernel
theorem dX10_isAsBefore_8 : decode cX10_isAsBefore 8 = .ok (.iload_n 1, 1) := by decide +kernel
theorem dX10_isAsBefore_9 : decode cX10_isAsBefore 9 = .ok (.iaload, 1) := by decide +kernel
theorem dX10_isAsBefore_10 : decode cX10_isAsBefore 10 = .ok (.aload_n 0, 1) := by decide +kernel
theorem dX10_isAsBefore_11 : decode cX10_isAsBefore 11 = .ok (.getfield 9, 3) := by decide +kernel
theorem dX10_isAsBefore_14 : decode cX10_isAsBefore 14 = .ok (.iload_n 1, 1) := by decide +kernel
theorem dX10_isAsBefore_15 : decode cX10_isAsBefore 15 = .ok (.iconst 1, 1) := by decide +kernel
theorem dX10_isAsBefore_16 : decode cX10_isAsBefore 16 = .ok (.isub, 1) := by decide +kernel
theorem dX10_isAsBefore_17 : decode cX10_isAsBefore 17 = .ok (.iaload, 1) := by decide +kernel
theorem dX10_isAsBefore_18 : decode cX10_isAsBefore 18 = .ok (.if_icmp .ne 41, 3) := by decide +kernel
theorem dX10_isAsBefore_21 : decode cX10_isAsBefore 21 = .ok (.aload_n 0, 1) := by decide +kernel
theorem dX10_isAsBefore_22 : decode cX10_isAsBefore 22 = .ok (.getfield 15, 3) := by decide +kernel
theorem dX10_isAsBefore_25 : decode cX10_isAsBefore 25 = .ok (.iload_n 1, 1) := by decide +kernel
theorem dX10_isAsBefore_26 : decode cX10_isAsBefore 26 = .ok (.iaload, 1) := by decide +kernel
theorem dX10_isAsBefore_27 : decode cX10_isAsBefore 27 = .ok (.aload_n 0, 1) := by decide +kernel
theorem dX10_isAsBefore_28 : decode cX10_isAsBefore 28 = .ok (.getfield 15, 3) := by decide +kernel
theorem dX10_isAsBefore_31 : decode cX10_isAsBefore 31 = .ok (.iload_n 1, 1) := by decide +kernel
theorem dX10_isAsBefore_32 : decode cX10_isAsBefore 32 = .ok (.iconst 1, 1) := by decide +kernel
theorem dX10_isAsBefore_33 : decode cX10_isAsBefore 33 = .ok (.isub, 1) := by decide +kernel
theorem dX10_isAsBefore_34 : decode cX10_isAsBefore 34 = .ok (.iaload, 1) := by decide +kernel
theorem dX10_isAsBefore_35 : decode cX10_isAsBefore 35 = .ok (.if_icmp .ne 24, 3) := by decide +kernel
theorem dX10_isAsBefore_38 : decode cX10_isAsBefore 38 = .ok (.aload_n 0, 1) := by decide +kernel
theorem dX10_isAsBefore_39 : decode cX10_isAsBefore 39 = .ok (.getfield 18, 3) := by decide +kernel
theorem dX10_isAsBefore_42 : decode cX10_isAsBefore 42 = .ok (.iload_n 1, 1) := by decide +kernel
theorem dX10_isAsBefore_43 : decode cX10_isAsBefore 43 = .ok (.baload, 1) := by decide +kernel
theorem dX10_isAsBefore_44 : decode cX10_isAsBefore 44 = .ok (.aload_n 0, 1) := by decide +kernel
theorem dX10_isAsBefore_45 : decode cX10_isAsBefore 45 = .ok (.getfield 18, 3) := by decide +kernel
theorem dX10_isAsBefore_48 : decode cX10_isAsBefore 48 = .ok (.iload_n 1, 1) := by decide +kernel
theorem dX10_isAsBefore_49 : decode cX10_isAsBefore 49 = .ok (.iconst 1, 1) := by decide +kernel
theorem dX10_isAsBefore_50 : decode cX10_isAsBefore 50 = .ok (.isub, 1) := by decide +kernel
theorem dX10_isAsBefore_51 : decode cX10_isAsBefore 51 = .ok (.baload, 1) := by decide +kernel
theorem dX10_isAsBefore_52 : decode cX10_isAsBefore 52 = .ok (.if_icmp .ne 7, 3) := by decide +kernel
theorem dX10_isAsBefore_55 : decode cX10_isAsBefore 55 = .ok (.iconst 1, 1) := by decide +kernel
theorem dX10_isAsBefore_56 : decode cX10_isAsBefore 56 = .ok (.goto 4, 3) := by decide +kernel
theorem dX10_isAsBefore_59 : decode cX10_isAsBefore 59 = .ok (.iconst 0, 1) := by decide +kernel
theorem dX10_isAsBefore_60 : decode cX10_isAsBefore 60 = .ok (.ireturn, 1) := by decide +kernel
theorem dX10_perform_0 : decode cX10_perform 0 = .ok (.aload_n 0, 1) := by decide +kernel
theorem dX10_perform_1 : decode cX10_perform 1 = .ok (.iconst 0, 1) := by decide +kernel
theorem dX10_perform_2 : decode cX10_perform 2 = .ok (.putfield 28, 3) := by decide +kernel
theorem dX10_perform_5 : decode cX10_perform 5 = .ok (.aload_n 0, 1) := by decide +kernel
theorem dX10_perform_6 : decode cX10_perform 6 = .ok (.getfield 9, 3) := by decide +kernel
theorem dX10_perform_9 : decode cX10_perform 9 = .ok (.iconst 0, 1) := by decide +kernel
theorem dX10_perform_10 : decode cX10_perform 10 = .ok (.iconst 0, 1) := by decide +kernel
theorem dX10_perform_11 : decode cX10_perform 11 = .ok (.iastore, 1) := by decide +kernel
theorem dX10_perform_12 : decode cX10_perform 12 = .ok (.aload_n 0, 1) := by decide +kernel
theorem dX10_perform_13 : decode cX10_perform 13 = .ok (.getfield 15, 3) := by decide +kernel
theorem dX10_perform_16 : decode cX10_perform 16 = .ok (.iconst 0, 1) := by decide +kernel
theorem dX10_perform_17 : decode cX10_perform 17 = .ok (.iconst 0, 1) := by decide +kernel
theorem dX10_perform_18 : decode cX10_perform 18 = .ok (.iastore, 1) := by decide +kernel
theorem dX10_perform_19 : decode cX10_perform 19 = .ok (.aload_n 0, 1) := by decide +kernel
theorem dX10_perform_20 : decode cX10_perform 20 = .ok (.getfield 18, 3) := by decide +kernel
theorem dX10_perform_23 : decode cX10_perform 23 = .ok (.iconst 0, 1) := by decide +kernel
theorem dX10_perform_24 : decode cX10_perform 24 = .ok (.iconst 1, 1) := by decide +kernel
theorem dX10_perform_25 : decode cX10_perform 25 = .ok (.bastore, 1) := by decide +kernel
theorem dX10_perform_26 : decode cX10_perform 26 = .ok (.aload_n 0, 1) := by decide +kernel
theorem dX10_perform_27 : decode cX10_perform 27 = .ok (.iconst 0, 1) := by decide +kernel
theorem dX10_perform_28 : decode cX10_perform 28 = .ok (.putfield 32, 3) := by decide +kernel
theorem dX10_perform_31 : decode cX10_perform 31 = .ok (.iconst 0, 1) := by decide +kernel
theorem dX10_perform_32 : decode cX10_perform 32 = .ok (.istore_n 2, 1) := by decide +kernel
theorem dX10_perform_33 : decode cX10_perform 33 = .ok (.iconst 0, 1) := by decide +kernel
theorem dX10_perform_34 : decode cX10_perform 34 = .ok (.istore_n 3, 1) := by decide +kernel
theorem dX10_perform_35 : decode cX10_perform 35 = .ok (.iload_n 3, 1) := by decide +kernel
theorem dX10_perform_36 : decode cX10_perform 36 = .ok (.ldc 35, 2) := by decide +kernel
theorem dX10_perform_38 : decode cX10_perform 38 = .ok (.if_icmp .ge 24, 3) := by decide +kernel
theorem dX10_perform_41 : decode cX10_perform 41 = .ok (.iload_n 2, 1) := by decide +kernel
theorem dX10_perform_42 : decode cX10_perform 42 = .ok (.aload_n 1, 1) := by decide +kernel
theorem dX10_perform_43 : decode cX10_perform 43 = .ok (.getfield 36, 3) := by decide +kernel
theorem dX10_perform_46 : decode cX10_perform 46 = .ok (.if_icmp .ge 16, 3) := by decide +kernel
theorem dX10_perform_49 : decode cX10_perform 49 = .ok (.aload_n 0, 1) := by decide +kernel
theorem dX10_perform_50 : decode cX10_perform 50 = .ok (.aload_n 1, 1) := by decide +kernel
theorem dX10_perform_51 : decode cX10_perform 51 = .ok (.iload_n 2, 1) := by decide +kernel
theorem dX10_perform_52 : decode cX10_perform 52 = .ok (.invokevirtual 41, 3) := by decide +kernel
theorem dX10_perform_55 : decode cX10_perform 55 = .ok (.istore_n 2, 1) := by decide +kernel
theorem dX10_perform_56 : decode cX10_perform 56 = .ok (.iinc 3 1, 3) := by decide +kernel
theorem dX10_perform_59 : decode cX10_perform 59 = .ok (.goto (-24), 3) := by decide +kernel
theorem dX10_perform_62 : decode cX10_perform 62 = .ok (.return_, 1) := by decide +kernel
theorem dX11_init_0 : decode cX11_init 0 = .ok (.aload_n 0, 1) := by decide +kernel
theorem dX11_init_1 : decode cX11_init 1 = .ok (.invokespecial 1, 3) := by decide +kernel
theorem dX11_init_4 : decode cX11_init 4 = .ok (.aload_n 0, 1) := by decide +kernel
theorem dX11_init_5 : decode cX11_init 5 = .ok (.new 7, 3) := by decide +kernel
theorem dX11_init_8 : decode cX11_init 8 = .ok (.dup, 1) := by decide +kernel
theorem dX11_init_9 : decode cX11_init 9 = .ok (.invokespecial 9, 3) := by decide +kernel
theorem dX11_init_12 : decode cX11_init 12 = .ok (.putfield 10, 3) := by decide +kernel
theorem dX11_init_15 : decode cX11_init 15 = .ok (.aload_n 0, 1) := by decide +kernel
theorem dX11_init_16 : decode cX11_init 16 = .ok (.new 16, 3) := by decide +kernel
theorem dX11_init_19 : decode cX11_init 19 = .ok (.dup, 1) := by decide +kernel
theorem dX11_init_20 : decode cX11_init 20 = .ok (.aload_n 0, 1) := by decide +kernel
theorem dX11_init_21 : decode cX11_init 21 = .ok (.getfield 10, 3) := by decide +kernel
theorem dX11_init_24 : decode cX11_init 24 = .ok (.invokespecial 18, 3) := by decide +kernel
theorem dX11_init_27 : decode cX11_init 27 = .ok (.putfield 21, 3) := by decide +kernel
theorem dX11_init_30 : decode cX11_init 30 = .ok (.aload_n 0, 1) := by decide +kernel
theorem dX11_init_31 : decode cX11_init 31 = .ok (.new 25, 3) := by decide +kernel
theorem dX11_init_34 : decode cX11_init 34 = .ok (.dup, 1) := by decide +kernel
theorem dX11_init_35 : decode cX11_init 35 = .ok (.invokespecial 27, 3) := by decide +kernel
theorem dX11_init_38 : decode cX11_init 38 = .ok (.putfield 28, 3) := by decide +kernel
theorem dX11_init_41 : decode cX11_init 41 = .ok (.aload_n 0, 1) := by decide +kernel
theorem dX11_init_42 : decode cX11_init 42 = .ok (.new 32, 3) := by decide +kernel
theorem dX11_init_45 : decode cX11_init 45 = .ok (.dup, 1) := by decide +kernel
theorem dX11_init_46 : decode cX11_init 46 = .ok (.invokespecial 34, 3) := by decide +kernel
theorem dX11_init_49 : decode cX11_init 49 = .ok (.putfield 35, 3) := by decide +kernel
theorem dX11_init_52 : decode cX11_init 52 = .ok (.aload_n 0, 1) := by decide +kernel
theorem dX11_init_53 : decode cX11_init 53 = .ok (.new 39, 3) := by decide +kernel
theorem dX11_init_56 : decode cX11_init 56 = .ok (.dup, 1) := by decide +kernel
theorem dX11_init_57 : decode cX11_init 57 = .ok (.aload_n 0, 1) := by decide +kernel
theorem dX11_init_58 : decode cX11_init 58 = .ok (.getfield 35, 3) := by decide +kernel
theorem dX11_init_61 : decode cX11_init 61 = .ok (.aload_n 0, 1) := by decide +kernel
theorem dX11_init_62 : decode cX11_init 62 = .ok (.getfield 28, 3) := by decide +kernel
theorem dX11_init_65 : decode cX11_init 65 = .ok (.invokespecial 41, 3) := by decide +kernel
theorem dX11_init_68 : decode cX11_init 68 = .ok (.putfield 44, 3) := by decide +kernel
theorem dX11_init_71 : decode cX11_init 71 = .ok (.aload_n 0, 1) := by decide +kernel
theorem dX11_init_72 : decode cX11_init 72 = .ok (.new 48, 3) := by decide +kernel
theorem dX11_init_75 : decode cX11_init 75 = .ok (.dup, 1) := by decide +kernel
theorem dX11_init_76 : decode cX11_init 76 = .ok (.invokespecial 50, 3) := by decide +kernel
theorem dX11_init_79 : decode cX11_init 79 = .ok (.putfield 51, 3) := by decide +kernel
theorem dX11_init_82 : decode cX11_init 82 = .ok (.aload_n 0, 1) := by decide +kernel
theorem dX11_init_83 : decode cX11_init 83 = .ok (.new 55, 3) := by decide +kernel
theorem dX11_init_86 : decode cX11_init 86 = .ok (.dup, 1) := by decide +kernel
theorem dX11_init_87 : decode cX11_init 87 = .ok (.invokespecial 57, 3) := by decide +kernel
theorem dX11_init_90 : decode cX11_init 90 = .ok (.putfield 58, 3) := by decide +kernel
theorem dX11_init_93 : decode cX11_init 93 = .ok (.aload_n 0, 1) := by decide +kernel
theorem dX11_init_94 : decode cX11_init 94 = .ok (.new 62, 3) := by decide +kernel
theorem dX11_init_97 : decode cX11_init 97 = .ok (.dup, 1) := by decide +kernel
theorem dX11_init_98 : decode cX11_init 98 = .ok (.invokespecial 64, 3) := by decide +kernel
theorem dX11_init_101 : decode cX11_init 101 = .ok (.putfield 65, 3) := by decide +kernel
theorem dX11_init_104 : decode cX11_init 104 = .ok (.return_, 1) := by decide +kernel
theorem dX11_feed_0 : decode cX11_feed 0 = .ok (.aload_n 0, 1) := by decide +kernel
theorem dX11_feed_1 : decode cX11_feed 1 = .ok (.getfield 10, 3) := by decide +kernel
theorem dX11_feed_4 : decode cX11_feed 4 = .ok (.invokevirtual 69, 3) := by decide +kernel
theorem dX11_feed_7 : decode cX11_feed 7 = .ok (.ifCond .ne 5, 3) := by decide +kernel
theorem dX11_feed_10 : decode cX11_feed 10 = .ok (.iconst (-1), 1) := by decide +kernel
theorem dX11_feed_11 : decode cX11_feed 11 = .ok (.ireturn, 1) := by decide +kernel
theorem dX11_feed_12 : decode cX11_feed 12 = .ok (.aload_n 0, 1) := by decide +kernel
theorem dX11_feed_13 : decode cX11_feed 13 = .ok (.getfield 10, 3) := by decide +kernel
theorem dX11_feed_16 : decode cX11_feed 16 = .ok (.iload_n 1, 1) := by decide +kernel
theorem dX11_feed_17 : decode cX11_feed 17 = .ok (.invokevirtual 73, 3) := by decide +kernel
theorem dX11_feed_20 : decode cX11_feed 20 = .ok (.aload_n 0, 1) := by decide +kernel
theorem dX11_feed_21 : decode cX11_feed 21 = .ok (.getfield 10, 3) := by decide +kernel
theorem dX11_feed_24 : decode cX11_feed 24 = .ok (.iload_n 2, 1) := by decide +kernel
theorem dX11_feed_25 : decode cX11_feed 25 = .ok (.invokevirtual 73, 3) := by decide +kernel
theorem dX11_feed_28 : decode cX11_feed 28 = .ok (.aload_n 0, 1) := by decide +kernel
theorem dX11_feed_29 : decode cX11_feed 29 = .ok (.getfield 10, 3) := by decide +kernel
theorem dX11_feed_32 : decode cX11_feed 32 = .ok (.iload_n 3, 1) := by decide +kernel
theorem dX11_feed_33 : decode cX11_feed 33 = .ok (.invokevirtual 73, 3) := by decide +kernel
theorem dX11_feed_36 : decode cX11_feed 36 = .ok (.aload_n 0, 1) := by decide +kernel
theorem dX11_feed_37 : decode cX11_feed 37 = .ok (.getfield 10, 3) := by decide +kernel
theorem dX11_feed_40 : decode cX11_feed 40 = .ok (.iload 4, 2) := by decide +kernel
theorem dX11_feed_42 : decode cX11_feed 42 = .ok (.invokevirtual 73, 3) := by decide +kernel
theorem dX11_feed_45 : decode cX11_feed 45 = .ok (.aload_n 0, 1) := by decide +kernel
theorem dX11_feed_46 : decode cX11_feed 46 = .ok (.getfield 10, 3) := by decide +kernel
theorem dX11_feed_49 : decode cX11_feed 49 = .ok (.iload 5, 2) := by decide +kernel
theorem dX11_feed_51 : decode cX11_feed 51 = .ok (.invokevirtual 73, 3) := by decide +kernel
theorem dX11_feed_54 : decode cX11_feed 54 = .ok (.aload_n 0, 1) := by decide +kernel
theorem dX11_feed_55 : decode cX11_feed 55 = .ok (.getfield 10, 3) := by decide +kernel
theorem dX11_feed_58 : decode cX11_feed 58 = .ok (.getfield 77, 3) := by decide +kernel
theorem dX11_feed_61 : decode cX11_feed 61 = .ok (.ireturn, 1) := by decide +kernel
theorem dX11_end_0 : decode cX11_end 0 = .ok (.iload_n 1, 1) := by decide +kernel
theorem dX11_end_1 : decode cX11_end 1 = .ok (.ifCond .lt 14, 3) := by decide +kernel
theorem dX11_end_4 : decode cX11_end 4 = .ok (.iload_n 1, 1) := by decide +kernel
theorem dX11_end_5 : decode cX11_end 5 = .ok (.aload_n 0, 1) := by decide +kernel
theorem dX11_end_6 : decode cX11_end 6 = .ok (.getfield 10, 3) := by decide +kernel
theorem dX11_end_9 : decode cX11_end 9 = .ok (.getfield 77, 3) := by decide +kernel
theorem dX11_end_12 : decode cX11_end 12 = .ok (.if_icmp .le 5, 3) := by decide +kernel
theorem dX11_end_15 : decode cX11_end 15 = .ok (.iconst 0, 1) := by decide +kernel
theorem dX11_end_16 : decode cX11_end 16 = .ok (.ireturn, 1) := by decide +kernel
theorem dX11_end_17 : decode cX11_end 17 = .ok (.aload_n 0, 1) := by decide +kernel
theorem dX11_end_18 : decode cX11_end 18 = .ok (.getfield 10, 3) := by decide +kernel
theorem dX11_end_21 : decode cX11_end 21 = .ok (.iload_n 1, 1) := by decide +kernel
theorem dX11_end_22 : decode cX11_end 22 = .ok (.putfield 77, 3) := by decide +kernel
theorem dX11_end_25 : decode cX11_end 25 = .ok (.iconst 1, 1) := by decide +kernel
theorem dX11_end_26 : decode cX11_end 26 = .ok (.ireturn, 1) := by decide +kernel
theorem dX11_pane_0 : decode cX11_pane 0 = .ok (.iload_n 1, 1) := by decide +kernel
theorem dX11_pane_1 : decode cX11_pane 1 = .ok (.iload_n 2, 1) := by decide +kernel
theorem dX11_pane_2 : decode cX11_pane 2 = .ok (.iload_n 3, 1) := by decide +kernel
theorem dX11_pane_3 : decode cX11_pane 3 = .ok (.iload 4, 2) := by decide +kernel
theorem dX11_pane_5 : decode cX11_pane 5 = .ok (.invokestatic 81, 3) := by decide +kernel
theorem dX11_pane_8 : decode cX11_pane 8 = .ok (.ifCond .ne 5, 3) := by decide +kernel
theorem dX11_pane_11 : decode cX11_pane 11 = .ok (.iconst 0, 1) := by decide +kernel
theorem dX11_pane_12 : decode cX11_pane 12 = .ok (.ireturn, 1) := by decide +kernel
theorem dX11_pane_13 : decode cX11_pane 13 = .ok (.aload_n 0, 1) := by decide +kernel
theorem dX11_pane_14 : decode cX11_pane 14 = .ok (.getfield 35, 3) := by decide +kernel
theorem dX11_pane_17 : decode cX11_pane 17 = .ok (.iload_n 1, 1) := by decide +kernel
theorem dX11_pane_18 : decode cX11_pane 18 = .ok (.putfield 85, 3) := by decide +kernel
theorem dX11_pane_21 : decode cX11_pane 21 = .ok (.aload_n 0, 1) := by decide +kernel
theorem dX11_pane_22 : decode cX11_pane 22 = .ok (.getfield 35, 3) := by decide +kernel
theorem dX11_pane_25 : decode cX11_pane 25 = .ok (.iload_n 2, 1) := by decide +kernel
theorem dX11_pane_26 : decode cX11_pane 26 = .ok (.putfield 88, 3) := by decide +kernel
theorem dX11_pane_29 : decode cX11_pane 29 = .ok (.aload_n 0, 1) := by decide +kernel
theorem dX11_pane_30 : decode cX11_pane 30 = .ok (.getfield 35, 3) := by decide +kernel
theorem dX11_pane_33 : decode cX11_pane 33 = .ok (.iload_n 3, 1) := by decide +kernel
theorem dX11_pane_34 : decode cX11_pane 34 = .ok (.putfield 91, 3) := by decide +kernel
theorem dX11_pane_37 : decode cX11_pane 37 = .ok (.aload_n 0, 1) := by decide +kernel
theorem dX11_pane_38 : decode cX11_pane 38 = .ok (.getfield 35, 3) := by decide +kernel
theorem dX11_pane_41 : decode cX11_pane 41 = .ok (.iload 4, 2) := by decide +kernel
theorem dX11_pane_43 : decode cX11_pane 43 = .ok (.putfield 94, 3) := by decide +kernel
theorem dX11_pane_46 : decode cX11_pane 46 = .ok (.iconst 1, 1) := by decide +kernel
theorem dX11_pane_47 : decode cX11_pane 47 = .ok (.ireturn, 1) := by decide +kernel
theorem dX11_board_0 : decode cX11_board 0 = .ok (.iload_n 1, 1) := by decide +kernel
theorem dX11_board_1 : decode cX11_board 1 = .ok (.iload_n 2, 1) := by decide +kernel
theorem dX11_board_2 : decode cX11_board 2 = .ok (.iload_n 3, 1) := by decide +kernel
theorem dX11_board_3 : decode cX11_board 3 = .ok (.iload 4, 2) := by decide +kernel
theorem dX11_board_5 : decode cX11_board 5 = .ok (.invokestatic 81, 3) := by decide +kernel
theorem dX11_board_8 : decode cX11_board 8 = .ok (.ifCond .ne 5, 3) := by decide +kernel
theorem dX11_board_11 : decode cX11_board 11 = .ok (.iconst 0, 1) := by decide +kernel
theorem dX11_board_12 : decode cX11_board 12 = .ok (.ireturn, 1) := by decide +kernel
theorem dX11_board_13 : decode cX11_board 13 = .ok (.aload_n 0, 1) := by decide +kernel
theorem dX11_board_14 : decode cX11_board 14 = .ok (.getfield 35, 3) := by decide +kernel
theorem dX11_board_17 : decode cX11_board 17 = .ok (.iload_n 1, 1) := by decide +kernel
theorem dX11_board_18 : decode cX11_board 18 = .ok (.putfield 97, 3) := by decide +kernel
theorem dX11_board_21 : decode cX11_board 21 = .ok (.aload_n 0, 1) := by decide +kernel
theorem dX11_board_22 : decode cX11_board 22 = .ok (.getfield 35, 3) := by decide +kernel
theorem dX11_board_25 : decode cX11_board 25 = .ok (.iload_n 2, 1) := by decide +kernel
theorem dX11_board_26 : decode cX11_board 26 = .ok (.putfield 100, 3) := by decide +kernel
theorem dX11_board_29 : decode cX11_board 29 = .ok (.aload_n 0, 1) := by decide +kernel
theorem dX11_board_30 : decode cX11_board 30 = .ok (.getfield 35, 3) := by decide +kernel
theorem dX11_board_33 : decode cX11_board 33 = .ok (.iload_n 3, 1) := by decide +kernel
theorem dX11_board_34 : decode cX11_board 34 = .ok (.putfield 103, 3) := by decide +kernel
theorem dX11_board_37 : decode cX11_board 37 = .ok (.aload_n 0, 1) := by decide +kernel
theorem dX11_board_38 : decode cX11_board 38 = .ok (.getfield 35, 3) := by decide +kernel
