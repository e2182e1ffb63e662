theorem dX0_init_0 : decode cX0_init 0 = .ok (.aload_n 0, 1) := by decide +kernel
theorem dX0_init_1 : decode cX0_init 1 = .ok (.invokespecial 3, 3) := by decide +kernel
theorem dX0_init_4 : decode cX0_init 4 = .ok (.return_, 1) := by decide +kernel
theorem dX0_begin_0 : decode cX0_begin 0 = .ok (.aload_n 0, 1) := by decide +kernel
theorem dX0_begin_1 : decode cX0_begin 1 = .ok (.iload_n 1, 1) := by decide +kernel
theorem dX0_begin_2 : decode cX0_begin 2 = .ok (.putfield 9, 3) := by decide +kernel
theorem dX0_begin_5 : decode cX0_begin 5 = .ok (.aload_n 0, 1) := by decide +kernel
theorem dX0_begin_6 : decode cX0_begin 6 = .ok (.iload_n 2, 1) := by decide +kernel
theorem dX0_begin_7 : decode cX0_begin 7 = .ok (.putfield 15, 3) := by decide +kernel
theorem dX0_begin_10 : decode cX0_begin 10 = .ok (.aload_n 0, 1) := by decide +kernel
theorem dX0_begin_11 : decode cX0_begin 11 = .ok (.iconst 0, 1) := by decide +kernel
theorem dX0_begin_12 : decode cX0_begin 12 = .ok (.putfield 18, 3) := by decide +kernel
theorem dX0_begin_15 : decode cX0_begin 15 = .ok (.aload_n 0, 1) := by decide +kernel
theorem dX0_begin_16 : decode cX0_begin 16 = .ok (.iconst (-1), 1) := by decide +kernel
theorem dX0_begin_17 : decode cX0_begin 17 = .ok (.putfield 21, 3) := by decide +kernel
theorem dX0_begin_20 : decode cX0_begin 20 = .ok (.aload_n 0, 1) := by decide +kernel
theorem dX0_begin_21 : decode cX0_begin 21 = .ok (.iconst (-1), 1) := by decide +kernel
theorem dX0_begin_22 : decode cX0_begin 22 = .ok (.putfield 24, 3) := by decide +kernel
theorem dX0_begin_25 : decode cX0_begin 25 = .ok (.return_, 1) := by decide +kernel
theorem dX0_addCounts_0 : decode cX0_addCounts 0 = .ok (.aload_n 0, 1) := by decide +kernel
theorem dX0_addCounts_1 : decode cX0_addCounts 1 = .ok (.sipush 241, 3) := by decide +kernel
theorem dX0_addCounts_4 : decode cX0_addCounts 4 = .ok (.aload_n 0, 1) := by decide +kernel
theorem dX0_addCounts_5 : decode cX0_addCounts 5 = .ok (.getfield 18, 3) := by decide +kernel
theorem dX0_addCounts_8 : decode cX0_addCounts 8 = .ok (.iload_n 1, 1) := by decide +kernel
theorem dX0_addCounts_9 : decode cX0_addCounts 9 = .ok (.iadd, 1) := by decide +kernel
theorem dX0_addCounts_10 : decode cX0_addCounts 10 = .ok (.invokestatic 27, 3) := by decide +kernel
theorem dX0_addCounts_13 : decode cX0_addCounts 13 = .ok (.putfield 18, 3) := by decide +kernel
theorem dX0_addCounts_16 : decode cX0_addCounts 16 = .ok (.return_, 1) := by decide +kernel
theorem dX0_put_0 : decode cX0_put 0 = .ok (.aload_n 0, 1) := by decide +kernel
theorem dX0_put_1 : decode cX0_put 1 = .ok (.iload_n 1, 1) := by decide +kernel
theorem dX0_put_2 : decode cX0_put 2 = .ok (.iconst (-1), 1) := by decide +kernel
theorem dX0_put_3 : decode cX0_put 3 = .ok (.if_icmp .ne 10, 3) := by decide +kernel
theorem dX0_put_6 : decode cX0_put 6 = .ok (.aload_n 0, 1) := by decide +kernel
theorem dX0_put_7 : decode cX0_put 7 = .ok (.getfield 21, 3) := by decide +kernel
theorem dX0_put_10 : decode cX0_put 10 = .ok (.goto 4, 3) := by decide +kernel
theorem dX0_put_13 : decode cX0_put 13 = .ok (.iload_n 1, 1) := by decide +kernel
theorem dX0_put_14 : decode cX0_put 14 = .ok (.putfield 21, 3) := by decide +kernel
theorem dX0_put_17 : decode cX0_put 17 = .ok (.aload_n 0, 1) := by decide +kernel
theorem dX0_put_18 : decode cX0_put 18 = .ok (.iload_n 2, 1) := by decide +kernel
theorem dX0_put_19 : decode cX0_put 19 = .ok (.iconst (-1), 1) := by decide +kernel
theorem dX0_put_20 : decode cX0_put 20 = .ok (.if_icmp .ne 10, 3) := by decide +kernel
theorem dX0_put_23 : decode cX0_put 23 = .ok (.aload_n 0, 1) := by decide +kernel
theorem dX0_put_24 : decode cX0_put 24 = .ok (.getfield 24, 3) := by decide +kernel
theorem dX0_put_27 : decode cX0_put 27 = .ok (.goto 4, 3) := by decide +kernel
theorem dX0_put_30 : decode cX0_put 30 = .ok (.iload_n 2, 1) := by decide +kernel
theorem dX0_put_31 : decode cX0_put 31 = .ok (.putfield 24, 3) := by decide +kernel
theorem dX0_put_34 : decode cX0_put 34 = .ok (.return_, 1) := by decide +kernel
theorem dX1_init_0 : decode cX1_init 0 = .ok (.aload_n 0, 1) := by decide +kernel
theorem dX1_init_1 : decode cX1_init 1 = .ok (.invokespecial 3, 3) := by decide +kernel
theorem dX1_init_4 : decode cX1_init 4 = .ok (.aload_n 0, 1) := by decide +kernel
theorem dX1_init_5 : decode cX1_init 5 = .ok (.bipush 101, 2) := by decide +kernel
theorem dX1_init_7 : decode cX1_init 7 = .ok (.newarray .int, 2) := by decide +kernel
theorem dX1_init_9 : decode cX1_init 9 = .ok (.putfield 11, 3) := by decide +kernel
theorem dX1_init_12 : decode cX1_init 12 = .ok (.aload_n 0, 1) := by decide +kernel
theorem dX1_init_13 : decode cX1_init 13 = .ok (.bipush 101, 2) := by decide +kernel
theorem dX1_init_15 : decode cX1_init 15 = .ok (.newarray .int, 2) := by decide +kernel
theorem dX1_init_17 : decode cX1_init 17 = .ok (.putfield 15, 3) := by decide +kernel
theorem dX1_init_20 : decode cX1_init 20 = .ok (.aload_n 0, 1) := by decide +kernel
theorem dX1_init_21 : decode cX1_init 21 = .ok (.bipush 101, 2) := by decide +kernel
theorem dX1_init_23 : decode cX1_init 23 = .ok (.newarray .int, 2) := by decide +kernel
theorem dX1_init_25 : decode cX1_init 25 = .ok (.putfield 18, 3) := by decide +kernel
theorem dX1_init_28 : decode cX1_init 28 = .ok (.aload_n 0, 1) := by decide +kernel
theorem dX1_init_29 : decode cX1_init 29 = .ok (.bipush 101, 2) := by decide +kernel
theorem dX1_init_31 : decode cX1_init 31 = .ok (.newarray .boolean, 2) := by decide +kernel
theorem dX1_init_33 : decode cX1_init 33 = .ok (.putfield 21, 3) := by decide +kernel
theorem dX1_init_36 : decode cX1_init 36 = .ok (.aload_n 0, 1) := by decide +kernel
theorem dX1_init_37 : decode cX1_init 37 = .ok (.bipush 101, 2) := by decide +kernel
theorem dX1_init_39 : decode cX1_init 39 = .ok (.newarray .boolean, 2) := by decide +kernel
theorem dX1_init_41 : decode cX1_init 41 = .ok (.putfield 25, 3) := by decide +kernel
theorem dX1_init_44 : decode cX1_init 44 = .ok (.aload_n 0, 1) := by decide +kernel
theorem dX1_init_45 : decode cX1_init 45 = .ok (.bipush 101, 2) := by decide +kernel
theorem dX1_init_47 : decode cX1_init 47 = .ok (.newarray .int, 2) := by decide +kernel
theorem dX1_init_49 : decode cX1_init 49 = .ok (.putfield 28, 3) := by decide +kernel
theorem dX1_init_52 : decode cX1_init 52 = .ok (.aload_n 0, 1) := by decide +kernel
theorem dX1_init_53 : decode cX1_init 53 = .ok (.bipush 101, 2) := by decide +kernel
theorem dX1_init_55 : decode cX1_init 55 = .ok (.newarray .int, 2) := by decide +kernel
theorem dX1_init_57 : decode cX1_init 57 = .ok (.putfield 31, 3) := by decide +kernel
theorem dX1_init_60 : decode cX1_init 60 = .ok (.aload_n 0, 1) := by decide +kernel
theorem dX1_init_61 : decode cX1_init 61 = .ok (.bipush 101, 2) := by decide +kernel
theorem dX1_init_63 : decode cX1_init 63 = .ok (.newarray .int, 2) := by decide +kernel
theorem dX1_init_65 : decode cX1_init 65 = .ok (.putfield 34, 3) := by decide +kernel
theorem dX1_init_68 : decode cX1_init 68 = .ok (.return_, 1) := by decide +kernel
theorem dX1_isFull_0 : decode cX1_isFull 0 = .ok (.aload_n 0, 1) := by decide +kernel
theorem dX1_isFull_1 : decode cX1_isFull 1 = .ok (.getfield 37, 3) := by decide +kernel
theorem dX1_isFull_4 : decode cX1_isFull 4 = .ok (.bipush 100, 2) := by decide +kernel
theorem dX1_isFull_6 : decode cX1_isFull 6 = .ok (.if_icmp .lt 7, 3) := by decide +kernel
theorem dX1_isFull_9 : decode cX1_isFull 9 = .ok (.iconst 1, 1) := by decide +kernel
theorem dX1_isFull_10 : decode cX1_isFull 10 = .ok (.goto 4, 3) := by decide +kernel
theorem dX1_isFull_13 : decode cX1_isFull 13 = .ok (.iconst 0, 1) := by decide +kernel
theorem dX1_isFull_14 : decode cX1_isFull 14 = .ok (.ireturn, 1) := by decide +kernel
theorem dX1_addReport_0 : decode cX1_addReport 0 = .ok (.aload_n 0, 1) := by decide +kernel
theorem dX1_addReport_1 : decode cX1_addReport 1 = .ok (.invokevirtual 41, 3) := by decide +kernel
theorem dX1_addReport_4 : decode cX1_addReport 4 = .ok (.ifCond .eq 5, 3) := by decide +kernel
theorem dX1_addReport_7 : decode cX1_addReport 7 = .ok (.iconst (-1), 1) := by decide +kernel
theorem dX1_addReport_8 : decode cX1_addReport 8 = .ok (.ireturn, 1) := by decide +kernel
theorem dX1_addReport_9 : decode cX1_addReport 9 = .ok (.aload_n 0, 1) := by decide +kernel
theorem dX1_addReport_10 : decode cX1_addReport 10 = .ok (.dup, 1) := by decide +kernel
theorem dX1_addReport_11 : decode cX1_addReport 11 = .ok (.getfield 37, 3) := by decide +kernel
theorem dX1_addReport_14 : decode cX1_addReport 14 = .ok (.iconst 1, 1) := by decide +kernel
theorem dX1_addReport_15 : decode cX1_addReport 15 = .ok (.iadd, 1) := by decide +kernel
theorem dX1_addReport_16 : decode cX1_addReport 16 = .ok (.putfield 37, 3) := by decide +kernel
theorem dX1_addReport_19 : decode cX1_addReport 19 = .ok (.aload_n 0, 1) := by decide +kernel
theorem dX1_addReport_20 : decode cX1_addReport 20 = .ok (.getfield 15, 3) := by decide +kernel
theorem dX1_addReport_23 : decode cX1_addReport 23 = .ok (.aload_n 0, 1) := by decide +kernel
theorem dX1_addReport_24 : decode cX1_addReport 24 = .ok (.getfield 37, 3) := by decide +kernel
theorem dX1_addReport_27 : decode cX1_addReport 27 = .ok (.iload_n 1, 1) := by decide +kernel
theorem dX1_addReport_28 : decode cX1_addReport 28 = .ok (.iastore, 1) := by decide +kernel
theorem dX1_addReport_29 : decode cX1_addReport 29 = .ok (.aload_n 0, 1) := by decide +kernel
theorem dX1_addReport_30 : decode cX1_addReport 30 = .ok (.getfield 18, 3) := by decide +kernel
theorem dX1_addReport_33 : decode cX1_addReport 33 = .ok (.aload_n 0, 1) := by decide +kernel
theorem dX1_addReport_34 : decode cX1_addReport 34 = .ok (.getfield 37, 3) := by decide +kernel
theorem dX1_addReport_37 : decode cX1_addReport 37 = .ok (.iload_n 2, 1) := by decide +kernel
theorem dX1_addReport_38 : decode cX1_addReport 38 = .ok (.iastore, 1) := by decide +kernel
theorem dX1_addReport_39 : decode cX1_addReport 39 = .ok (.aload_n 0, 1) := by decide +kernel
theorem dX1_addReport_40 : decode cX1_addReport 40 = .ok (.getfield 21, 3) := by decide +kernel
theorem dX1_addReport_43 : decode cX1_addReport 43 = .ok (.aload_n 0, 1) := by decide +kernel
theorem dX1_addReport_44 : decode cX1_addReport 44 = .ok (.getfield 37, 3) := by decide +kernel
theorem dX1_addReport_47 : decode cX1_addReport 47 = .ok (.iload_n 3, 1) := by decide +kernel
theorem dX1_addReport_48 : decode cX1_addReport 48 = .ok (.bastore, 1) := by decide +kernel
theorem dX1_addReport_49 : decode cX1_addReport 49 = .ok (.aload_n 0, 1) := by decide +kernel
theorem dX1_addReport_50 : decode cX1_addReport 50 = .ok (.getfield 28, 3) := by decide +kernel
theorem dX1_addReport_53 : decode cX1_addReport 53 = .ok (.aload_n 0, 1) := by decide +kernel
theorem dX1_addReport_54 : decode cX1_addReport 54 = .ok (.getfield 37, 3) := by decide +kernel
theorem dX1_addReport_57 : decode cX1_addReport 57 = .ok (.iconst 0, 1) := by decide +kernel
theorem dX1_addReport_58 : decode cX1_addReport 58 = .ok (.iastore, 1) := by decide +kernel
theorem dX1_addReport_59 : decode cX1_addReport 59 = .ok (.aload_n 0, 1) := by decide +kernel
theorem dX1_addReport_60 : decode cX1_addReport 60 = .ok (.getfield 37, 3) := by decide +kernel
theorem dX1_addReport_63 : decode cX1_addReport 63 = .ok (.ireturn, 1) := by decide +kernel
theorem dX1_canVoid_0 : decode cX1_canVoid 0 = .ok (.aload_n 0, 1) := by decide +kernel
theorem dX1_canVoid_1 : decode cX1_canVoid 1 = .ok (.invokevirtual 41, 3) := by decide +kernel
theorem dX1_canVoid_4 : decode cX1_canVoid 4 = .ok (.ifCond .ne 38, 3) := by decide +kernel
theorem dX1_canVoid_7 : decode cX1_canVoid 7 = .ok (.iload_n 1, 1) := by decide +kernel
theorem dX1_canVoid_8 : decode cX1_canVoid 8 = .ok (.iconst 1, 1) := by decide +kernel
theorem dX1_canVoid_9 : decode cX1_canVoid 9 = .ok (.if_icmp .lt 33, 3) := by decide +kernel
theorem dX1_canVoid_12 : decode cX1_canVoid 12 = .ok (.iload_n 1, 1) := by decide +kernel
theorem dX1_canVoid_13 : decode cX1_canVoid 13 = .ok (.aload_n 0, 1) := by decide +kernel
theorem dX1_canVoid_14 : decode cX1_canVoid 14 = .ok (.getfield 37, 3) := by decide +kernel
theorem dX1_canVoid_17 : decode cX1_canVoid 17 = .ok (.if_icmp .gt 25, 3) := by decide +kernel
theorem dX1_canVoid_20 : decode cX1_canVoid 20 = .ok (.aload_n 0, 1) := by decide +kernel
theorem dX1_canVoid_21 : decode cX1_canVoid 21 = .ok (.getfield 28, 3) := by decide +kernel
theorem dX1_canVoid_24 : decode cX1_canVoid 24 = .ok (.iload_n 1, 1) := by decide +kernel
theorem dX1_canVoid_25 : decode cX1_canVoid 25 = .ok (.iaload, 1) := by decide +kernel
theorem dX1_canVoid_26 : decode cX1_canVoid 26 = .ok (.ifCond .ne 16, 3) := by decide +kernel
theorem dX1_canVoid_29 : decode cX1_canVoid 29 = .ok (.aload_n 0, 1) := by decide +kernel
theorem dX1_canVoid_30 : decode cX1_canVoid 30 = .ok (.getfield 25, 3) := by decide +kernel
theorem dX1_canVoid_33 : decode cX1_canVoid 33 = .ok (.iload_n 1, 1) := by decide +kernel
theorem dX1_canVoid_34 : decode cX1_canVoid 34 = .ok (.baload, 1) := by decide +kernel
theorem dX1_canVoid_35 : decode cX1_canVoid 35 = .ok (.ifCond .ne 7, 3) := by decide +kernel
theorem dX1_canVoid_38 : decode cX1_canVoid 38 = .ok (.iconst 1, 1) := by decide +kernel
theorem dX1_canVoid_39 : decode cX1_canVoid 39 = .ok (.goto 4, 3) := by decide +kernel
theorem dX1_canVoid_42 : decode cX1_canVoid 42 = .ok (.iconst 0, 1) := by decide +kernel
theorem dX1_canVoid_43 : decode cX1_canVoid 43 = .ok (.ireturn, 1) := by decide +kernel
theorem dX1_addVoid_0 : decode cX1_addVoid 0 = .ok (.aload_n 0, 1) := by decide +kernel
theorem dX1_addVoid_1 : decode cX1_addVoid 1 = .ok (.iload_n 1, 1) := by decide +kernel
theorem dX1_addVoid_2 : decode cX1_addVoid 2 = .ok (.invokevirtual 45, 3) := by decide +kernel
theorem dX1_addVoid_5 : decode cX1_addVoid 5 = .ok (.ifCond .ne 5, 3) := by decide +kernel
theorem dX1_addVoid_8 : decode cX1_addVoid 8 = .ok (.iconst (-1), 1) := by decide +kernel
theorem dX1_addVoid_9 : decode cX1_addVoid 9 = .ok (.ireturn, 1) := by decide +kernel
theorem dX1_addVoid_10 : decode cX1_addVoid 10 = .ok (.aload_n 0, 1) := by decide +kernel
theorem dX1_addVoid_11 : decode cX1_addVoid 11 = .ok (.dup, 1) := by decide +kernel
theorem dX1_addVoid_12 : decode cX1_addVoid 12 = .ok (.getfield 37, 3) := by decide +kernel
theorem dX1_addVoid_15 : decode cX1_addVoid 15 = .ok (.iconst 1, 1) := by decide +kernel
theorem dX1_addVoid_16 : decode cX1_addVoid 16 = .ok (.iadd, 1) := by decide +kernel
theorem dX1_addVoid_17 : decode cX1_addVoid 17 = .ok (.putfield 37, 3) := by decide +kernel
theorem dX1_addVoid_20 : decode cX1_addVoid 20 = .ok (.aload_n 0, 1) := by decide +kernel
theorem dX1_addVoid_21 : decode cX1_addVoid 21 = .ok (.getfield 28, 3) := by decide +kernel
theorem dX1_addVoid_24 : decode cX1_addVoid 24 = .ok (.aload_n 0, 1) := by decide +kernel
theorem dX1_addVoid_25 : decode cX1_addVoid 25 = .ok (.getfield 37, 3) := by decide +kernel
theorem dX1_addVoid_28 : decode cX1_addVoid 28 = .ok (.iload_n 1, 1) := by decide +kernel
theorem dX1_addVoid_29 : decode cX1_addVoid 29 = .ok (.iastore, 1) := by decide +kernel
theorem dX1_addVoid_30 : decode cX1_addVoid 30 = .ok (.aload_n 0, 1) := by decide +kernel
theorem dX1_addVoid_31 : decode cX1_addVoid 31 = .ok (.getfield 25, 3) := by decide +kernel
theorem dX1_addVoid_34 : decode cX1_addVoid 34 = .ok (.iload_n 1, 1) := by decide +kernel
theorem dX1_addVoid_35 : decode cX1_addVoid 35 = .ok (.iconst 1, 1) := by decide +kernel
theorem dX1_addVoid_36 : decode cX1_addVoid 36 = .ok (.bastore, 1) := by decide +kernel
theorem dX1_addVoid_37 : decode cX1_addVoid 37 = .ok (.aload_n 0, 1) := by decide +kernel
theorem dX1_addVoid_38 : decode cX1_addVoid 38 = .ok (.getfield 37, 3) := by decide +kernel
theorem dX1_addVoid_41 : decode cX1_addVoid 41 = .ok (.ireturn, 1) := by decide +kernel
theorem dX1_knownAt_0 : decode cX1_knownAt 0 = .ok (.iload_n 1, 1) := by decide +kernel
theorem dX1_knownAt_1 : decode cX1_knownAt 1 = .ok (.iconst (-1), 1) := by decide +kernel
theorem dX1_knownAt_2 : decode cX1_knownAt 2 = .ok (.if_icmp .ne 8, 3) := by decide +kernel
theorem dX1_knownAt_5 : decode cX1_knownAt 5 = .ok (.aload_n 0, 1) := by decide +kernel
theorem dX1_knownAt_6 : decode cX1_knownAt 6 = .ok (.getfield 37, 3) := by decide +kernel
theorem dX1_knownAt_9 : decode cX1_knownAt 9 = .ok (.ireturn, 1) := by decide +kernel
theorem dX1_knownAt_10 : decode cX1_knownAt 10 = .ok (.iload_n 1, 1) := by decide +kernel
theorem dX1_knownAt_11 : decode cX1_knownAt 11 = .ok (.ifCond .lt 15, 3) := by decide +kernel
theorem dX1_knownAt_14 : decode cX1_knownAt 14 = .ok (.iload_n 1, 1) := by decide +kernel
theorem dX1_knownAt_15 : decode cX1_knownAt 15 = .ok (.aload_n 0, 1) := by decide +kernel
theorem dX1_knownAt_16 : decode cX1_knownAt 16 = .ok (.getfield 37, 3) := by decide +kernel
theorem dX1_knownAt_19 : decode cX1_knownAt 19 = .ok (.if_icmp .gt 7, 3) := by decide +kernel
theorem dX1_knownAt_22 : decode cX1_knownAt 22 = .ok (.iload_n 1, 1) := by decide +kernel
theorem dX1_knownAt_23 : decode cX1_knownAt 23 = .ok (.goto 4, 3) := by decide +kernel
theorem dX1_knownAt_26 : decode cX1_knownAt 26 = .ok (.iconst (-1), 1) := by decide +kernel
theorem dX1_knownAt_27 : decode cX1_knownAt 27 = .ok (.ireturn, 1) := by decide +kernel
theorem dX1_tally_0 : decode cX1_tally 0 = .ok (.aload_n 0, 1) := by decide +kernel
theorem dX1_tally_1 : decode cX1_tally 1 = .ok (.getfield 11, 3) := by decide +kernel
theorem dX1_tally_4 : decode cX1_tally 4 = .ok (.iconst 0, 1) := by decide +kernel
theorem dX1_tally_5 : decode cX1_tally 5 = .ok (.iconst 0, 1) := by decide +kernel
theorem dX1_tally_6 : decode cX1_tally 6 = .ok (.iastore, 1) := by decide +kernel
theorem dX1_tally_7 : decode cX1_tally 7 = .ok (.iconst 1, 1) := by decide +kernel
theorem dX1_tally_8 : decode cX1_tally 8 = .ok (.istore_n 3, 1) := by decide +kernel
theorem dX1_tally_9 : decode cX1_tally 9 = .ok (.iload_n 3, 1) := by decide +kernel
theorem dX1_tally_10 : decode cX1_tally 10 = .ok (.iload_n 2, 1) := by decide +kernel
theorem dX1_tally_11 : decode cX1_tally 11 = .ok (.if_icmp .gt 122, 3) := by decide +kernel
theorem dX1_tally_14 : decode cX1_tally 14 = .ok (.iload_n 3, 1) := by decide +kernel
theorem dX1_tally_15 : decode cX1_tally 15 = .ok (.bipush 100, 2) := by decide +kernel
theorem dX1_tally_17 : decode cX1_tally 17 = .ok (.if_icmp .gt 116, 3) := by decide +kernel
theorem dX1_tally_20 : decode cX1_tally 20 = .ok (.aload_n 0, 1) := by decide +kernel
theorem dX1_tally_21 : decode cX1_tally 21 = .ok (.getfield 28, 3) := by decide +kernel
theorem dX1_tally_24 : decode cX1_tally 24 = .ok (.iload_n 3, 1) := by decide +kernel
theorem dX1_tally_25 : decode cX1_tally 25 = .ok (.iaload, 1) := by decide +kernel
theorem dX1_tally_26 : decode cX1_tally 26 = .ok (.istore 4, 2) := by decide +kernel
theorem dX1_tally_28 : decode cX1_tally 28 = .ok (.iload 4, 2) := by decide +kernel
theorem dX1_tally_30 : decode cX1_tally 30 = .ok (.iconst 1, 1) := by decide +kernel
theorem dX1_tally_31 : decode cX1_tally 31 = .ok (.if_icmp .lt 44, 3) := by decide +kernel
theorem dX1_tally_34 : decode cX1_tally 34 = .ok (.iload 4, 2) := by decide +kernel
theorem dX1_tally_36 : decode cX1_tally 36 = .ok (.iload_n 3, 1) := by decide +kernel
theorem dX1_tally_37 : decode cX1_tally 37 = .ok (.if_icmp .ge 38, 3) := by decide +kernel
theorem dX1_tally_40 : decode cX1_tally 40 = .ok (.aload_n 0, 1) := by decide +kernel
theorem dX1_tally_41 : decode cX1_tally 41 = .ok (.getfield 11, 3) := by decide +kernel
theorem dX1_tally_44 : decode cX1_tally 44 = .ok (.iload_n 3, 1) := by decide +kernel
theorem dX1_tally_45 : decode cX1_tally 45 = .ok (.aload_n 0, 1) := by decide +kernel
theorem dX1_tally_46 : decode cX1_tally 46 = .ok (.getfield 11, 3) := by decide +kernel
theorem dX1_tally_49 : decode cX1_tally 49 = .ok (.iload_n 3, 1) := by decide +kernel
theorem dX1_tally_50 : decode cX1_tally 50 = .ok (.iconst 1, 1) := by decide +kernel
theorem dX1_tally_51 : decode cX1_tally 51 = .ok (.isub, 1) := by decide +kernel
theorem dX1_tally_52 : decode cX1_tally 52 = .ok (.iaload, 1) := by decide +kernel
theorem dX1_tally_53 : decode cX1_tally 53 = .ok (.aload_n 0, 1) := by decide +kernel
theorem dX1_tally_54 : decode cX1_tally 54 = .ok (.getfield 11, 3) := by decide +kernel
theorem dX1_tally_57 : decode cX1_tally 57 = .ok (.iload 4, 2) := by decide +kernel
theorem dX1_tally_59 : decode cX1_tally 59 = .ok (.iaload, 1) := by decide +kernel
theorem dX1_tally_60 : decode cX1_tally 60 = .ok (.aload_n 0, 1) := by decide +kernel
theorem dX1_tally_61 : decode cX1_tally 61 = .ok (.getfield 11, 3) := by decide +kernel
theorem dX1_tally_64 : decode cX1_tally 64 = .ok (.iload 4, 2) := by decide +kernel
theorem dX1_tally_66 : decode cX1_tally 66 = .ok (.iconst 1, 1) := by decide +kernel
theorem dX1_tally_67 : decode cX1_tally 67 = .ok (.isub, 1) := by decide +kernel
theorem dX1_tally_68 : decode cX1_tally 68 = .ok (.iaload, 1) := by decide +kernel
theorem dX1_tally_69 : decode cX1_tally 69 = .ok (.isub, 1) := by decide +kernel
theorem dX1_tally_70 : decode cX1_tally 70 = .ok (.isub, 1) := by decide +kernel
theorem dX1_tally_71 : decode cX1_tally 71 = .ok (.iastore, 1) := by decide +kernel
theorem dX1_tally_72 : decode cX1_tally 72 = .ok (.goto 55, 3) := by decide +kernel
theorem dX1_tally_75 : decode cX1_tally 75 = .ok (.aload_n 1, 1) := by decide +kernel
theorem dX1_tally_76 : decode cX1_tally 76 = .ok (.aload_n 0, 1) := by decide +kernel
theorem dX1_tally_77 : decode cX1_tally 77 = .ok (.getfield 15, 3) := by decide +kernel
theorem dX1_tally_80 : decode cX1_tally 80 = .ok (.iload_n 3, 1) := by decide +kernel
theorem dX1_tally_81 : decode cX1_tally 81 = .ok (.iaload, 1) := by decide +kernel
theorem dX1_tally_82 : decode cX1_tally 82 = .ok (.aload_n 0, 1) := by decide +kernel
theorem dX1_tally_83 : decode cX1_tally 83 = .ok (.getfield 18, 3) := by decide +kernel
theorem dX1_tally_86 : decode cX1_tally 86 = .ok (.iload_n 3, 1) := by decide +kernel
theorem dX1_tally_87 : decode cX1_tally 87 = .ok (.iaload, 1) := by decide +kernel
theorem dX1_tally_88 : decode cX1_tally 88 = .ok (.invokevirtual 49, 3) := by decide +kernel
theorem dX1_tally_91 : decode cX1_tally 91 = .ok (.istore 5, 2) := by decide +kernel
theorem dX1_tally_93 : decode cX1_tally 93 = .ok (.aload_n 0, 1) := by decide +kernel
theorem dX1_tally_94 : decode cX1_tally 94 = .ok (.getfield 11, 3) := by decide +kernel
theorem dX1_tally_97 : decode cX1_tally 97 = .ok (.iload_n 3, 1) := by decide +kernel
theorem dX1_tally_98 : decode cX1_tally 98 = .ok (.aload_n 0, 1) := by decide +kernel
theorem dX1_tally_99 : decode cX1_tally 99 = .ok (.getfield 11, 3) := by decide +kernel
theorem dX1_tally_102 : decode cX1_tally 102 = .ok (.iload_n 3, 1) := by decide +kernel
theorem dX1_tally_103 : decode cX1_tally 103 = .ok (.iconst 1, 1) := by decide +kernel
theorem dX1_tally_104 : decode cX1_tally 104 = .ok (.isub, 1) := by decide +kernel
theorem dX1_tally_105 : decode cX1_tally 105 = .ok (.iaload, 1) := by decide +kernel
theorem dX1_tally_106 : decode cX1_tally 106 = .ok (.iload 5, 2) := by decide +kernel
theorem dX1_tally_108 : decode cX1_tally 108 = .ok (.aload_n 0, 1) := by decide +kernel
theorem dX1_tally_109 : decode cX1_tally 109 = .ok (.getfield 21, 3) := by decide +kernel
theorem dX1_tally_112 : decode cX1_tally 112 = .ok (.iload_n 3, 1) := by decide +kernel
theorem dX1_tally_113 : decode cX1_tally 113 = .ok (.baload, 1) := by decide +kernel
theorem dX1_tally_114 : decode cX1_tally 114 = .ok (.if_icmp .eq 7, 3) := by decide +kernel
theorem dX1_tally_117 : decode cX1_tally 117 = .ok (.iconst 1, 1) := by decide +kernel
theorem dX1_tally_118 : decode cX1_tally 118 = .ok (.goto 4, 3) := by decide +kernel
theorem dX1_tally_121 : decode cX1_tally 121 = .ok (.iconst 0, 1) := by decide +kernel
theorem dX1_tally_122 : decode cX1_tally 122 = .ok (.invokestatic 55, 3) := by decide +kernel
theorem dX1_tally_125 : decode cX1_tally 125 = .ok (.iadd, 1) := by decide +kernel
theorem dX1_tally_126 : decode cX1_tally 126 = .ok (.iastore, 1) := by decide +kernel
theorem dX1_tally_127 : decode cX1_tally 127 = .ok (.iinc 3 1, 3) := by decide +kernel
theorem dX1_tally_130 : decode cX1_tally 130 = .ok (.goto (-121), 3) := by decide +kernel
theorem dX1_tally_133 : decode cX1_tally 133 = .ok (.return_, 1) := by decide +kernel
theorem dX1_clearLikely_0 : decode cX1_clearLikely 0 = .ok (.iconst 0, 1) := by decide +kernel
theorem dX1_clearLikely_1 : decode cX1_clearLikely 1 = .ok (.istore_n 1, 1) := by decide +kernel
theorem dX1_clearLikely_2 : decode cX1_clearLikely 2 = .ok (.iload_n 1, 1) := by decide +kernel
theorem dX1_clearLikely_3 : decode cX1_clearLikely 3 = .ok (.bipush 100, 2) := by decide +kernel
theorem dX1_clearLikely_5 : decode cX1_clearLikely 5 = .ok (.if_icmp .gt 24, 3) := by decide +kernel
theorem dX1_clearLikely_8 : decode cX1_clearLikely 8 = .ok (.aload_n 0, 1) := by decide +kernel
theorem dX1_clearLikely_9 : decode cX1_clearLikely 9 = .ok (.getfield 31, 3) := by decide +kernel
theorem dX1_clearLikely_12 : decode cX1_clearLikely 12 = .ok (.iload_n 1, 1) := by decide +kernel
theorem dX1_clearLikely_13 : decode cX1_clearLikely 13 = .ok (.bipush 101, 2) := by decide +kernel
theorem dX1_clearLikely_15 : decode cX1_clearLikely 15 = .ok (.iastore, 1) := by decide +kernel
theorem dX1_clearLikely_16 : decode cX1_clearLikely 16 = .ok (.aload_n 0, 1) := by decide +kernel
theorem dX1_clearLikely_17 : decode cX1_clearLikely 17 = .ok (.getfield 34, 3) := by decide +kernel
theorem dX1_clearLikely_20 : decode cX1_clearLikely 20 = .ok (.iload_n 1, 1) := by decide +kernel
theorem dX1_clearLikely_21 : decode cX1_clearLikely 21 = .ok (.iconst (-1), 1) := by decide +kernel
theorem dX1_clearLikely_22 : decode cX1_clearLikely 22 = .ok (.iastore, 1) := by decide +kernel
theorem dX1_clearLikely_23 : decode cX1_clearLikely 23 = .ok (.iinc 1 1, 3) := by decide +kernel
theorem dX1_clearLikely_26 : decode cX1_clearLikely 26 = .ok (.goto (-24), 3) := by decide +kernel
theorem dX1_clearLikely_29 : decode cX1_clearLikely 29 = .ok (.return_, 1) := by decide +kernel
theorem dX1_keepLikely_0 : decode cX1_keepLikely 0 = .ok (.iconst 0, 1) := by decide +kernel
theorem dX1_keepLikely_1 : decode cX1_keepLikely 1 = .ok (.istore_n 2, 1) := by decide +kernel
theorem dX1_keepLikely_2 : decode cX1_keepLikely 2 = .ok (.iload_n 2, 1) := by decide +kernel
theorem dX1_keepLikely_3 : decode cX1_keepLikely 3 = .ok (.aload_n 0, 1) := by decide +kernel
theorem dX1_keepLikely_4 : decode cX1_keepLikely 4 = .ok (.getfield 37, 3) := by decide +kernel
theorem dX1_keepLikely_7 : decode cX1_keepLikely 7 = .ok (.if_icmp .gt 43, 3) := by decide +kernel
theorem dX1_keepLikely_10 : decode cX1_keepLikely 10 = .ok (.aload_n 0, 1) := by decide +kernel
theorem dX1_keepLikely_11 : decode cX1_keepLikely 11 = .ok (.getfield 11, 3) := by decide +kernel
theorem dX1_keepLikely_14 : decode cX1_keepLikely 14 = .ok (.iload_n 2, 1) := by decide +kernel
theorem dX1_keepLikely_15 : decode cX1_keepLikely 15 = .ok (.iaload, 1) := by decide +kernel
theorem dX1_keepLikely_16 : decode cX1_keepLikely 16 = .ok (.aload_n 0, 1) := by decide +kernel
theorem dX1_keepLikely_17 : decode cX1_keepLikely 17 = .ok (.getfield 31, 3) := by decide +kernel
theorem dX1_keepLikely_20 : decode cX1_keepLikely 20 = .ok (.iload_n 2, 1) := by decide +kernel
theorem dX1_keepLikely_21 : decode cX1_keepLikely 21 = .ok (.iaload, 1) := by decide +kernel
theorem dX1_keepLikely_22 : decode cX1_keepLikely 22 = .ok (.if_icmp .ge 22, 3) := by decide +kernel
theorem dX1_keepLikely_25 : decode cX1_keepLikely 25 = .ok (.aload_n 0, 1) := by decide +kernel
theorem dX1_keepLikely_26 : decode cX1_keepLikely 26 = .ok (.getfield 31, 3) := by decide +kernel
theorem dX1_keepLikely_29 : decode cX1_keepLikely 29 = .ok (.iload_n 2, 1) := by decide +kernel
theorem dX1_keepLikely_30 : decode cX1_keepLikely 30 = .ok (.aload_n 0, 1) := by decide +kernel
theorem dX1_keepLikely_31 : decode cX1_keepLikely 31 = .ok (.getfield 11, 3) := by decide +kernel
theorem dX1_keepLikely_34 : decode cX1_keepLikely 34 = .ok (.iload_n 2, 1) := by decide +kernel
theorem dX1_keepLikely_35 : decode cX1_keepLikely 35 = .ok (.iaload, 1) := by decide +kernel
theorem dX1_keepLikely_36 : decode cX1_keepLikely 36 = .ok (.iastore, 1) := by decide +kernel
theorem dX1_keepLikely_37 : decode cX1_keepLikely 37 = .ok (.aload_n 0, 1) := by decide +kernel
theorem dX1_keepLikely_38 : decode cX1_keepLikely 38 = .ok (.getfield 34, 3) := by decide +kernel
theorem dX1_keepLikely_41 : decode cX1_keepLikely 41 = .ok (.iload_n 2, 1) := by decide +kernel
theorem dX1_keepLikely_42 : decode cX1_keepLikely 42 = .ok (.iload_n 1, 1) := by decide +kernel
theorem dX1_keepLikely_43 : decode cX1_keepLikely 43 = .ok (.iastore, 1) := by decide +kernel
theorem dX1_keepLikely_44 : decode cX1_keepLikely 44 = .ok (.iinc 2 1, 3) := by decide +kernel
theorem dX1_keepLikely_47 : decode cX1_keepLikely 47 = .ok (.goto (-45), 3) := by decide +kernel
theorem dX1_keepLikely_50 : decode cX1_keepLikely 50 = .ok (.return_, 1) := by decide +kernel
theorem dX1_firstOfLastLikely_0 : decode cX1_firstOfLastLikely 0 = .ok (.aload_n 0, 1) := by decide +kernel
theorem dX1_firstOfLastLikely_1 : decode cX1_firstOfLastLikely 1 = .ok (.getfield 37, 3) := by decide +kernel
theorem dX1_firstOfLastLikely_4 : decode cX1_firstOfLastLikely 4 = .ok (.istore_n 1, 1) := by decide +kernel
theorem dX1_firstOfLastLikely_5 : decode cX1_firstOfLastLikely 5 = .ok (.iload_n 1, 1) := by decide +kernel
theorem dX1_firstOfLastLikely_6 : decode cX1_firstOfLastLikely 6 = .ok (.ifCond .le 29, 3) := by decide +kernel
theorem dX1_firstOfLastLikely_9 : decode cX1_firstOfLastLikely 9 = .ok (.aload_n 0, 1) := by decide +kernel
theorem dX1_firstOfLastLikely_10 : decode cX1_firstOfLastLikely 10 = .ok (.getfield 34, 3) := by decide +kernel
theorem dX1_firstOfLastLikely_13 : decode cX1_firstOfLastLikely 13 = .ok (.iload_n 1, 1) := by decide +kernel
theorem dX1_firstOfLastLikely_14 : decode cX1_firstOfLastLikely 14 = .ok (.iconst 1, 1) := by decide +kernel
theorem dX1_firstOfLastLikely_15 : decode cX1_firstOfLastLikely 15 = .ok (.isub, 1) := by decide +kernel
theorem dX1_firstOfLastLikely_16 : decode cX1_firstOfLastLikely 16 = .ok (.iaload, 1) := by decide +kernel
theorem dX1_firstOfLastLikely_17 : decode cX1_firstOfLastLikely 17 = .ok (.aload_n 0, 1) := by decide +kernel
theorem dX1_firstOfLastLikely_18 : decode cX1_firstOfLastLikely 18 = .ok (.getfield 34, 3) := by decide +kernel
theorem dX1_firstOfLastLikely_21 : decode cX1_firstOfLastLikely 21 = .ok (.aload_n 0, 1) := by decide +kernel
theorem dX1_firstOfLastLikely_22 : decode cX1_firstOfLastLikely 22 = .ok (.getfield 37, 3) := by decide +kernel
theorem dX1_firstOfLastLikely_25 : decode cX1_firstOfLastLikely 25 = .ok (.iaload, 1) := by decide +kernel
theorem dX1_firstOfLastLikely_26 : decode cX1_firstOfLastLikely 26 = .ok (.if_icmp .ne 9, 3) := by decide +kernel
theorem dX1_firstOfLastLikely_29 : decode cX1_firstOfLastLikely 29 = .ok (.iinc 1 (-1), 3) := by decide +kernel
theorem dX1_firstOfLastLikely_32 : decode cX1_firstOfLastLikely 32 = .ok (.goto (-27), 3) := by decide +kernel
theorem dX1_firstOfLastLikely_35 : decode cX1_firstOfLastLikely 35 = .ok (.iload_n 1, 1) := by decide +kernel
theorem dX1_firstOfLastLikely_36 : decode cX1_firstOfLastLikely 36 = .ok (.ireturn, 1) := by decide +kernel
theorem dX2_init_0 : decode cX2_init 0 = .ok (.aload_n 0, 1) := by decide +kernel
theorem dX2_init_1 : decode cX2_init 1 = .ok (.invokespecial 1, 3) := by decide +kernel
theorem dX2_init_4 : decode cX2_init 4 = .ok (.aload_n 0, 1) := by decide +kernel
theorem dX2_init_5 : decode cX2_init 5 = .ok (.sipush 128, 3) := by decide +kernel
theorem dX2_init_8 : decode cX2_init 8 = .ok (.newarray .int, 2) := by decide +kernel
theorem dX2_init_10 : decode cX2_init 10 = .ok (.putfield 9, 3) := by decide +kernel
theorem dX2_init_13 : decode cX2_init 13 = .ok (.aload_n 0, 1) := by decide +kernel
theorem dX2_init_14 : decode cX2_init 14 = .ok (.sipush 128, 3) := by decide +kernel
theorem dX2_init_17 : decode cX2_init 17 = .ok (.newarray .int, 2) := by decide +kernel
theorem dX2_init_19 : decode cX2_init 19 = .ok (.putfield 13, 3) := by decide +kernel
theorem dX2_init_22 : decode cX2_init 22 = .ok (.aload_n 0, 1) := by decide +kernel
theorem dX2_init_23 : decode cX2_init 23 = .ok (.sipush 128, 3) := by decide +kernel
theorem dX2_init_26 : decode cX2_init 26 = .ok (.newarray .int, 2) := by decide +kernel
theorem dX2_init_28 : decode cX2_init 28 = .ok (.putfield 16, 3) := by decide +kernel
theorem dX2_init_31 : decode cX2_init 31 = .ok (.return_, 1) := by decide +kernel
theorem dX2_add_0 : decode cX2_add 0 = .ok (.aload_n 0, 1) := by decide +kernel
theorem dX2_add_1 : decode cX2_add 1 = .ok (.getfield 19, 3) := by decide +kernel
theorem dX2_add_4 : decode cX2_add 4 = .ok (.sipush 128, 3) := by decide +kernel
theorem dX2_add_7 : decode cX2_add 7 = .ok (.if_icmp .ge 43, 3) := by decide +kernel
theorem dX2_add_10 : decode cX2_add 10 = .ok (.aload_n 0, 1) := by decide +kernel
theorem dX2_add_11 : decode cX2_add 11 = .ok (.getfield 9, 3) := by decide +kernel
theorem dX2_add_14 : decode cX2_add 14 = .ok (.aload_n 0, 1) := by decide +kernel
theorem dX2_add_15 : decode cX2_add 15 = .ok (.getfield 19, 3) := by decide +kernel
theorem dX2_add_18 : decode cX2_add 18 = .ok (.iload_n 1, 1) := by decide +kernel
theorem dX2_add_19 : decode cX2_add 19 = .ok (.iastore, 1) := by decide +kernel
theorem dX2_add_20 : decode cX2_add 20 = .ok (.aload_n 0, 1) := by decide +kernel
theorem dX2_add_21 : decode cX2_add 21 = .ok (.getfield 13, 3) := by decide +kernel
theorem dX2_add_24 : decode cX2_add 24 = .ok (.aload_n 0, 1) := by decide +kernel
theorem dX2_add_25 : decode cX2_add 25 = .ok (.getfield 19, 3) := by decide +kernel
theorem dX2_add_28 : decode cX2_add 28 = .ok (.iload_n 2, 1) := by decide +kernel
theorem dX2_add_29 : decode cX2_add 29 = .ok (.iastore, 1) := by decide +kernel
theorem dX2_add_30 : decode cX2_add 30 = .ok (.aload_n 0, 1) := by decide +kernel
theorem dX2_add_31 : decode cX2_add 31 = .ok (.getfield 16, 3) := by decide +kernel
theorem dX2_add_34 : decode cX2_add 34 = .ok (.aload_n 0, 1) := by decide +kernel
theorem dX2_add_35 : decode cX2_add 35 = .ok (.getfield 19, 3) := by decide +kernel
theorem dX2_add_38 : decode cX2_add 38 = .ok (.iload_n 3, 1) := by decide +kernel
theorem dX2_add_39 : decode cX2_add 39 = .ok (.iastore, 1) := by decide +kernel
theorem dX2_add_40 : decode cX2_add 40 = .ok (.aload_n 0, 1) := by decide +kernel
theorem dX2_add_41 : decode cX2_add 41 = .ok (.dup, 1) := by decide +kernel
theorem dX2_add_42 : decode cX2_add 42 = .ok (.getfield 19, 3) := by decide +kernel
theorem dX2_add_45 : decode cX2_add 45 = .ok (.iconst 1, 1) := by decide +kernel
theorem dX2_add_46 : decode cX2_add 46 = .ok (.iadd, 1) := by decide +kernel
theorem dX2_add_47 : decode cX2_add 47 = .ok (.putfield 19, 3) := by decide +kernel
theorem dX2_add_50 : decode cX2_add 50 = .ok (.return_, 1) := by decide +kernel
theorem dX2_pointPast_0 : decode cX2_pointPast 0 = .ok (.iload_n 1, 1) := by decide +kernel
theorem dX2_pointPast_1 : decode cX2_pointPast 1 = .ok (.ifCond .lt 20, 3) := by decide +kernel
theorem dX2_pointPast_4 : decode cX2_pointPast 4 = .ok (.iload_n 1, 1) := by decide +kernel
theorem dX2_pointPast_5 : decode cX2_pointPast 5 = .ok (.sipush 128, 3) := by decide +kernel
theorem dX2_pointPast_8 : decode cX2_pointPast 8 = .ok (.if_icmp .ge 13, 3) := by decide +kernel
theorem dX2_pointPast_11 : decode cX2_pointPast 11 = .ok (.aload_n 0, 1) := by decide +kernel
theorem dX2_pointPast_12 : decode cX2_pointPast 12 = .ok (.getfield 13, 3) := by decide +kernel
theorem dX2_pointPast_15 : decode cX2_pointPast 15 = .ok (.iload_n 1, 1) := by decide +kernel
theorem dX2_pointPast_16 : decode cX2_pointPast 16 = .ok (.aload_n 0, 1) := by decide +kernel
theorem dX2_pointPast_17 : decode cX2_pointPast 17 = .ok (.getfield 19, 3) := by decide +kernel
theorem dX2_pointPast_20 : decode cX2_pointPast 20 = .ok (.iastore, 1) := by decide +kernel
theorem dX2_pointPast_21 : decode cX2_pointPast 21 = .ok (.return_, 1) := by decide +kernel
theorem dX3_init_0 : decode cX3_init 0 = .ok (.aload_n 0, 1) := by decide +kernel
theorem dX3_init_1 : decode cX3_init 1 = .ok (.invokespecial 3, 3) := by decide +kernel
theorem dX3_init_4 : decode cX3_init 4 = .ok (.aload_n 0, 1) := by decide +kernel
theorem dX3_init_5 : decode cX3_init 5 = .ok (.bipush 12, 2) := by decide +kernel
theorem dX3_init_7 : decode cX3_init 7 = .ok (.iconst 4, 1) := by decide +kernel
theorem dX3_init_8 : decode cX3_init 8 = .ok (.multianewarray 9 2, 4) := by decide +kernel
theorem dX3_init_12 : decode cX3_init 12 = .ok (.putfield 11, 3) := by decide +kernel
theorem dX3_init_15 : decode cX3_init 15 = .ok (.aload_n 0, 1) := by decide +kernel
theorem dX3_init_16 : decode cX3_init 16 = .ok (.bipush 12, 2) := by decide +kernel
theorem dX3_init_18 : decode cX3_init 18 = .ok (.newarray .boolean, 2) := by decide +kernel
theorem dX3_init_20 : decode cX3_init 20 = .ok (.putfield 16, 3) := by decide +kernel
theorem dX3_init_23 : decode cX3_init 23 = .ok (.return_, 1) := by decide +kernel
theorem dX3_lay_0 : decode cX3_lay 0 = .ok (.aload_n 0, 1) := by decide +kernel
theorem dX3_lay_1 : decode cX3_lay 1 = .ok (.ldc2_w 20, 3) := by decide +kernel
theorem dX3_lay_4 : decode cX3_lay 4 = .ok (.aload_n 1, 1) := by decide +kernel
theorem dX3_lay_5 : decode cX3_lay 5 = .ok (.getfield 22, 3) := by decide +kernel
theorem dX3_lay_8 : decode cX3_lay 8 = .ok (.i2l, 1) := by decide +kernel
theorem dX3_lay_9 : decode cX3_lay 9 = .ok (.lmul, 1) := by decide +kernel
theorem dX3_lay_10 : decode cX3_lay 10 = .ok (.putfield 28, 3) := by decide +kernel
theorem dX3_lay_13 : decode cX3_lay 13 = .ok (.aload_n 0, 1) := by decide +kernel
theorem dX3_lay_14 : decode cX3_lay 14 = .ok (.ldc2_w 20, 3) := by decide +kernel
theorem dX3_lay_17 : decode cX3_lay 17 = .ok (.aload_n 1, 1) := by decide +kernel
theorem dX3_lay_18 : decode cX3_lay 18 = .ok (.getfield 32, 3) := by decide +kernel
theorem dX3_lay_21 : decode cX3_lay 21 = .ok (.i2l, 1) := by decide +kernel
theorem dX3_lay_22 : decode cX3_lay 22 = .ok (.lmul, 1) := by decide +kernel
theorem dX3_lay_23 : decode cX3_lay 23 = .ok (.putfield 35, 3) := by decide +kernel
theorem dX3_lay_26 : decode cX3_lay 26 = .ok (.aload_n 0, 1) := by decide +kernel
theorem dX3_lay_27 : decode cX3_lay 27 = .ok (.iload_n 2, 1) := by decide +kernel
theorem dX3_lay_28 : decode cX3_lay 28 = .ok (.aload_n 1, 1) := by decide +kernel
theorem dX3_lay_29 : decode cX3_lay 29 = .ok (.getfield 22, 3) := by decide +kernel
theorem dX3_lay_32 : decode cX3_lay 32 = .ok (.isub, 1) := by decide +kernel
theorem dX3_lay_33 : decode cX3_lay 33 = .ok (.i2l, 1) := by decide +kernel
theorem dX3_lay_34 : decode cX3_lay 34 = .ok (.putfield 38, 3) := by decide +kernel
theorem dX3_lay_37 : decode cX3_lay 37 = .ok (.aload_n 0, 1) := by decide +kernel
theorem dX3_lay_38 : decode cX3_lay 38 = .ok (.iload_n 3, 1) := by decide +kernel
theorem dX3_lay_39 : decode cX3_lay 39 = .ok (.aload_n 1, 1) := by decide +kernel
theorem dX3_lay_40 : decode cX3_lay 40 = .ok (.getfield 32, 3) := by decide +kernel
theorem dX3_lay_43 : decode cX3_lay 43 = .ok (.isub, 1) := by decide +kernel
theorem dX3_lay_44 : decode cX3_lay 44 = .ok (.i2l, 1) := by decide +kernel
theorem dX3_lay_45 : decode cX3_lay 45 = .ok (.putfield 41, 3) := by decide +kernel
theorem dX3_lay_48 : decode cX3_lay 48 = .ok (.aload_n 0, 1) := by decide +kernel
theorem dX3_lay_49 : decode cX3_lay 49 = .ok (.aload_n 0, 1) := by decide +kernel
theorem dX3_lay_50 : decode cX3_lay 50 = .ok (.getfield 38, 3) := by decide +kernel
theorem dX3_lay_53 : decode cX3_lay 53 = .ok (.aload_n 0, 1) := by decide +kernel
theorem dX3_lay_54 : decode cX3_lay 54 = .ok (.getfield 38, 3) := by decide +kernel
theorem dX3_lay_57 : decode cX3_lay 57 = .ok (.lmul, 1) := by decide +kernel
theorem dX3_lay_58 : decode cX3_lay 58 = .ok (.aload_n 0, 1) := by decide +kernel
theorem dX3_lay_59 : decode cX3_lay 59 = .ok (.getfield 41, 3) := by decide +kernel
theorem dX3_lay_62 : decode cX3_lay 62 = .ok (.aload_n 0, 1) := by decide +kernel
theorem dX3_lay_63 : decode cX3_lay 63 = .ok (.getfield 41, 3) := by decide +kernel
theorem dX3_lay_66 : decode cX3_lay 66 = .ok (.lmul, 1) := by decide +kernel
theorem dX3_lay_67 : decode cX3_lay 67 = .ok (.ladd, 1) := by decide +kernel
theorem dX3_lay_68 : decode cX3_lay 68 = .ok (.putfield 44, 3) := by decide +kernel
theorem dX3_lay_71 : decode cX3_lay 71 = .ok (.aload_n 0, 1) := by decide +kernel
theorem dX3_lay_72 : decode cX3_lay 72 = .ok (.iload 4, 2) := by decide +kernel
theorem dX3_lay_74 : decode cX3_lay 74 = .ok (.putfield 47, 3) := by decide +kernel
theorem dX3_lay_77 : decode cX3_lay 77 = .ok (.iconst 0, 1) := by decide +kernel
theorem dX3_lay_78 : decode cX3_lay 78 = .ok (.istore 5, 2) := by decide +kernel
theorem dX3_lay_80 : decode cX3_lay 80 = .ok (.iload 5, 2) := by decide +kernel
theorem dX3_lay_82 : decode cX3_lay 82 = .ok (.bipush 12, 2) := by decide +kernel
theorem dX3_lay_84 : decode cX3_lay 84 = .ok (.if_icmp .ge 139, 3) := by decide +kernel
theorem dX3_lay_87 : decode cX3_lay 87 = .ok (.aload_n 0, 1) := by decide +kernel
theorem dX3_lay_88 : decode cX3_lay 88 = .ok (.getfield 16, 3) := by decide +kernel
theorem dX3_lay_91 : decode cX3_lay 91 = .ok (.iload 5, 2) := by decide +kernel
theorem dX3_lay_93 : decode cX3_lay 93 = .ok (.aload_n 1, 1) := by decide +kernel
theorem dX3_lay_94 : decode cX3_lay 94 = .ok (.getfield 50, 3) := by decide +kernel
theorem dX3_lay_97 : decode cX3_lay 97 = .ok (.iload 5, 2) := by decide +kernel
theorem dX3_lay_99 : decode cX3_lay 99 = .ok (.baload, 1) := by decide +kernel
theorem dX3_lay_100 : decode cX3_lay 100 = .ok (.bastore, 1) := by decide +kernel
theorem dX3_lay_101 : decode cX3_lay 101 = .ok (.aload_n 1, 1) := by decide +kernel
theorem dX3_lay_102 : decode cX3_lay 102 = .ok (.getfield 53, 3) := by decide +kernel
theorem dX3_lay_105 : decode cX3_lay 105 = .ok (.iload 5, 2) := by decide +kernel
theorem dX3_lay_107 : decode cX3_lay 107 = .ok (.baload, 1) := by decide +kernel
theorem dX3_lay_108 : decode cX3_lay 108 = .ok (.ifCond .eq 8, 3) := by decide +kernel
theorem dX3_lay_111 : decode cX3_lay 111 = .ok (.iload 4, 2) := by decide +kernel
theorem dX3_lay_113 : decode cX3_lay 113 = .ok (.goto 4, 3) := by decide +kernel
theorem dX3_lay_116 : decode cX3_lay 116 = .ok (.iconst 0, 1) := by decide +kernel
theorem dX3_lay_117 : decode cX3_lay 117 = .ok (.istore 6, 2) := by decide +kernel
theorem dX3_lay_119 : decode cX3_lay 119 = .ok (.aload_n 0, 1) := by decide +kernel
theorem dX3_lay_120 : decode cX3_lay 120 = .ok (.getfield 11, 3) := by decide +kernel
theorem dX3_lay_123 : decode cX3_lay 123 = .ok (.iload 5, 2) := by decide +kernel
theorem dX3_lay_125 : decode cX3_lay 125 = .ok (.aaload, 1) := by decide +kernel
theorem dX3_lay_126 : decode cX3_lay 126 = .ok (.iconst 0, 1) := by decide +kernel
theorem dX3_lay_127 : decode cX3_lay 127 = .ok (.ldc2_w 20, 3) := by decide +kernel
theorem dX3_lay_130 : decode cX3_lay 130 = .ok (.aload_n 1, 1) := by decide +kernel
theorem dX3_lay_131 : decode cX3_lay 131 = .ok (.getfield 56, 3) := by decide +kernel
theorem dX3_lay_134 : decode cX3_lay 134 = .ok (.iload 5, 2) := by decide +kernel
theorem dX3_lay_136 : decode cX3_lay 136 = .ok (.aaload, 1) := by decide +kernel
theorem dX3_lay_137 : decode cX3_lay 137 = .ok (.iconst 0, 1) := by decide +kernel
theorem dX3_lay_138 : decode cX3_lay 138 = .ok (.iaload, 1) := by decide +kernel
theorem dX3_lay_139 : decode cX3_lay 139 = .ok (.i2l, 1) := by decide +kernel
theorem dX3_lay_140 : decode cX3_lay 140 = .ok (.lmul, 1) := by decide +kernel
theorem dX3_lay_141 : decode cX3_lay 141 = .ok (.lastore, 1) := by decide +kernel
theorem dX3_lay_142 : decode cX3_lay 142 = .ok (.aload_n 0, 1) := by decide +kernel
theorem dX3_lay_143 : decode cX3_lay 143 = .ok (.getfield 11, 3) := by decide +kernel
theorem dX3_lay_146 : decode cX3_lay 146 = .ok (.iload 5, 2) := by decide +kernel
theorem dX3_lay_148 : decode cX3_lay 148 = .ok (.aaload, 1) := by decide +kernel
theorem dX3_lay_149 : decode cX3_lay 149 = .ok (.iconst 1, 1) := by decide +kernel
theorem dX3_lay_150 : decode cX3_lay 150 = .ok (.ldc2_w 20, 3) := by decide +kernel
theorem dX3_lay_153 : decode cX3_lay 153 = .ok (.aload_n 1, 1) := by decide +kernel
theorem dX3_lay_154 : decode cX3_lay 154 = .ok (.getfield 56, 3) := by decide +kernel
theorem dX3_lay_157 : decode cX3_lay 157 = .ok (.iload 5, 2) := by decide +kernel
theorem dX3_lay_159 : decode cX3_lay 159 = .ok (.aaload, 1) := by decide +kernel
theorem dX3_lay_160 : decode cX3_lay 160 = .ok (.iconst 1, 1) := by decide +kernel
theorem dX3_lay_161 : decode cX3_lay 161 = .ok (.iaload, 1) := by decide +kernel
theorem dX3_lay_162 : decode cX3_lay 162 = .ok (.iload 6, 2) := by decide +kernel
theorem dX3_lay_164 : decode cX3_lay 164 = .ok (.isub, 1) := by decide +kernel
theorem dX3_lay_165 : decode cX3_lay 165 = .ok (.i2l, 1) := by decide +kernel
theorem dX3_lay_166 : decode cX3_lay 166 = .ok (.lmul, 1) := by decide +kernel
theorem dX3_lay_167 : decode cX3_lay 167 = .ok (.lastore, 1) := by decide +kernel
theorem dX3_lay_168 : decode cX3_lay 168 = .ok (.aload_n 0, 1) := by decide +kernel
theorem dX3_lay_169 : decode cX3_lay 169 = .ok (.getfield 11, 3) := by decide +kernel
theorem dX3_lay_172 : decode cX3_lay 172 = .ok (.iload 5, 2) := by decide +kernel
theorem dX3_lay_174 : decode cX3_lay 174 = .ok (.aaload, 1) := by decide +kernel
theorem dX3_lay_175 : decode cX3_lay 175 = .ok (.iconst 2, 1) := by decide +kernel
theorem dX3_lay_176 : decode cX3_lay 176 = .ok (.ldc2_w 20, 3) := by decide +kernel
theorem dX3_lay_179 : decode cX3_lay 179 = .ok (.aload_n 1, 1) := by decide +kernel
theorem dX3_lay_180 : decode cX3_lay 180 = .ok (.getfield 56, 3) := by decide +kernel
theorem dX3_lay_183 : decode cX3_lay 183 = .ok (.iload 5, 2) := by decide +kernel
theorem dX3_lay_185 : decode cX3_lay 185 = .ok (.aaload, 1) := by decide +kernel
theorem dX3_lay_186 : decode cX3_lay 186 = .ok (.iconst 2, 1) := by decide +kernel
theorem dX3_lay_187 : decode cX3_lay 187 = .ok (.iaload, 1) := by decide +kernel
theorem dX3_lay_188 : decode cX3_lay 188 = .ok (.i2l, 1) := by decide +kernel
theorem dX3_lay_189 : decode cX3_lay 189 = .ok (.lmul, 1) := by decide +kernel
theorem dX3_lay_190 : decode cX3_lay 190 = .ok (.lastore, 1) := by decide +kernel
theorem dX3_lay_191 : decode cX3_lay 191 = .ok (.aload_n 0, 1) := by decide +kernel
theorem dX3_lay_192 : decode cX3_lay 192 = .ok (.getfield 11, 3) := by decide +kernel
theorem dX3_lay_195 : decode cX3_lay 195 = .ok (.iload 5, 2) := by decide +kernel
theorem dX3_lay_197 : decode cX3_lay 197 = .ok (.aaload, 1) := by decide +kernel
theorem dX3_lay_198 : decode cX3_lay 198 = .ok (.iconst 3, 1) := by decide +kernel
theorem dX3_lay_199 : decode cX3_lay 199 = .ok (.ldc2_w 20, 3) := by decide +kernel
theorem dX3_lay_202 : decode cX3_lay 202 = .ok (.aload_n 1, 1) := by decide +kernel
theorem dX3_lay_203 : decode cX3_lay 203 = .ok (.getfield 56, 3) := by decide +kernel
theorem dX3_lay_206 : decode cX3_lay 206 = .ok (.iload 5, 2) := by decide +kernel
theorem dX3_lay_208 : decode cX3_lay 208 = .ok (.aaload, 1) := by decide +kernel
theorem dX3_lay_209 : decode cX3_lay 209 = .ok (.iconst 3, 1) := by decide +kernel
theorem dX3_lay_210 : decode cX3_lay 210 = .ok (.iaload, 1) := by decide +kernel
theorem dX3_lay_211 : decode cX3_lay 211 = .ok (.iload 6, 2) := by decide +kernel
theorem dX3_lay_213 : decode cX3_lay 213 = .ok (.isub, 1) := by decide +kernel
theorem dX3_lay_214 : decode cX3_lay 214 = .ok (.i2l, 1) := by decide +kernel
theorem dX3_lay_215 : decode cX3_lay 215 = .ok (.lmul, 1) := by decide +kernel
theorem dX3_lay_216 : decode cX3_lay 216 = .ok (.lastore, 1) := by decide +kernel
theorem dX3_lay_217 : decode cX3_lay 217 = .ok (.iinc 5 1, 3) := by decide +kernel
theorem dX3_lay_220 : decode cX3_lay 220 = .ok (.goto (-140), 3) := by decide +kernel
theorem dX3_lay_223 : decode cX3_lay 223 = .ok (.return_, 1) := by decide +kernel
theorem dX3_twiceAlong_0 : decode cX3_twiceAlong 0 = .ok (.lload_n 1, 1) := by decide +kernel
theorem dX3_twiceAlong_1 : decode cX3_twiceAlong 1 = .ok (.aload_n 0, 1) := by decide +kernel
theorem dX3_twiceAlong_2 : decode cX3_twiceAlong 2 = .ok (.getfield 28, 3) := by decide +kernel
theorem dX3_twiceAlong_5 : decode cX3_twiceAlong 5 = .ok (.lsub, 1) := by decide +kernel
theorem dX3_twiceAlong_6 : decode cX3_twiceAlong 6 = .ok (.aload_n 0, 1) := by decide +kernel
theorem dX3_twiceAlong_7 : decode cX3_twiceAlong 7 = .ok (.getfield 38, 3) := by decide +kernel
theorem dX3_twiceAlong_10 : decode cX3_twiceAlong 10 = .ok (.lmul, 1) := by decide +kernel
theorem dX3_twiceAlong_11 : decode cX3_twiceAlong 11 = .ok (.lload_n 3, 1) := by decide +kernel
theorem dX3_twiceAlong_12 : decode cX3_twiceAlong 12 = .ok (.aload_n 0, 1) := by decide +kernel
theorem dX3_twiceAlong_13 : decode cX3_twiceAlong 13 = .ok (.getfield 35, 3) := by decide +kernel
theorem dX3_twiceAlong_16 : decode cX3_twiceAlong 16 = .ok (.lsub, 1) := by decide +kernel
theorem dX3_twiceAlong_17 : decode cX3_twiceAlong 17 = .ok (.aload_n 0, 1) := by decide +kernel
theorem dX3_twiceAlong_18 : decode cX3_twiceAlong 18 = .ok (.getfield 41, 3) := by decide +kernel
theorem dX3_twiceAlong_21 : decode cX3_twiceAlong 21 = .ok (.lmul, 1) := by decide +kernel
theorem dX3_twiceAlong_22 : decode cX3_twiceAlong 22 = .ok (.ladd, 1) := by decide +kernel
theorem dX3_twiceAlong_23 : decode cX3_twiceAlong 23 = .ok (.lreturn, 1) := by decide +kernel
theorem dX3_twiceOff_0 : decode cX3_twiceOff 0 = .ok (.lload_n 3, 1) := by decide +kernel
theorem dX3_twiceOff_1 : decode cX3_twiceOff 1 = .ok (.aload_n 0, 1) := by decide +kernel
theorem dX3_twiceOff_2 : decode cX3_twiceOff 2 = .ok (.getfield 35, 3) := by decide +kernel
theorem dX3_twiceOff_5 : decode cX3_twiceOff 5 = .ok (.lsub, 1) := by decide +kernel
theorem dX3_twiceOff_6 : decode cX3_twiceOff 6 = .ok (.aload_n 0, 1) := by decide +kernel
theorem dX3_twiceOff_7 : decode cX3_twiceOff 7 = .ok (.getfield 38, 3) := by decide +kernel
theorem dX3_twiceOff_10 : decode cX3_twiceOff 10 = .ok (.lmul, 1) := by decide +kernel
theorem dX3_twiceOff_11 : decode cX3_twiceOff 11 = .ok (.lload_n 1, 1) := by decide +kernel
theorem dX3_twiceOff_12 : decode cX3_twiceOff 12 = .ok (.aload_n 0, 1) := by decide +kernel
theorem dX3_twiceOff_13 : decode cX3_twiceOff 13 = .ok (.getfield 28, 3) := by decide +kernel
theorem dX3_twiceOff_16 : decode cX3_twiceOff 16 = .ok (.lsub, 1) := by decide +kernel
theorem dX3_twiceOff_17 : decode cX3_twiceOff 17 = .ok (.aload_n 0, 1) := by decide +kernel
theorem dX3_twiceOff_18 : decode cX3_twiceOff 18 = .ok (.getfield 41, 3) := by decide +kernel
theorem dX3_twiceOff_21 : decode cX3_twiceOff 21 = .ok (.lmul, 1) := by decide +kernel
theorem dX3_twiceOff_22 : decode cX3_twiceOff 22 = .ok (.lsub, 1) := by decide +kernel
theorem dX3_twiceOff_23 : decode cX3_twiceOff 23 = .ok (.lreturn, 1) := by decide +kernel
theorem dX3_mirroredX_0 : decode cX3_mirroredX 0 = .ok (.aload_n 0, 1) := by decide +kernel
theorem dX3_mirroredX_1 : decode cX3_mirroredX 1 = .ok (.getfield 44, 3) := by decide +kernel
theorem dX3_mirroredX_4 : decode cX3_mirroredX 4 = .ok (.iload_n 1, 1) := by decide +kernel
theorem dX3_mirroredX_5 : decode cX3_mirroredX 5 = .ok (.i2l, 1) := by decide +kernel
theorem dX3_mirroredX_6 : decode cX3_mirroredX 6 = .ok (.lmul, 1) := by decide +kernel
theorem dX3_mirroredX_7 : decode cX3_mirroredX 7 = .ok (.aload_n 0, 1) := by decide +kernel
theorem dX3_mirroredX_8 : decode cX3_mirroredX 8 = .ok (.ldc2_w 20, 3) := by decide +kernel
theorem dX3_mirroredX_11 : decode cX3_mirroredX 11 = .ok (.iload_n 1, 1) := by decide +kernel
theorem dX3_mirroredX_12 : decode cX3_mirroredX 12 = .ok (.i2l, 1) := by decide +kernel
theorem dX3_mirroredX_13 : decode cX3_mirroredX 13 = .ok (.lmul, 1) := by decide +kernel
theorem dX3_mirroredX_14 : decode cX3_mirroredX 14 = .ok (.ldc2_w 20, 3) := by decide +kernel
theorem dX3_mirroredX_17 : decode cX3_mirroredX 17 = .ok (.iload_n 2, 1) := by decide +kernel
theorem dX3_mirroredX_18 : decode cX3_mirroredX 18 = .ok (.i2l, 1) := by decide +kernel
theorem dX3_mirroredX_19 : decode cX3_mirroredX 19 = .ok (.lmul, 1) := by decide +kernel
theorem dX3_mirroredX_20 : decode cX3_mirroredX 20 = .ok (.invokevirtual 60, 3) := by decide +kernel
theorem dX3_mirroredX_23 : decode cX3_mirroredX 23 = .ok (.aload_n 0, 1) := by decide +kernel
theorem dX3_mirroredX_24 : decode cX3_mirroredX 24 = .ok (.getfield 41, 3) := by decide +kernel
theorem dX3_mirroredX_27 : decode cX3_mirroredX 27 = .ok (.lmul, 1) := by decide +kernel
theorem dX3_mirroredX_28 : decode cX3_mirroredX 28 = .ok (.ladd, 1) := by decide +kernel
theorem dX3_mirroredX_29 : decode cX3_mirroredX 29 = .ok (.lreturn, 1) := by decide +kernel
theorem dX3_mirroredY_0 : decode cX3_mirroredY 0 = .ok (.aload_n 0, 1) := by decide +kernel
theorem dX3_mirroredY_1 : decode cX3_mirroredY 1 = .ok (.getfield 44, 3) := by decide +kernel
theorem dX3_mirroredY_4 : decode cX3_mirroredY 4 = .ok (.iload_n 2, 1) := by decide +kernel
theorem dX3_mirroredY_5 : decode cX3_mirroredY 5 = .ok (.i2l, 1) := by decide +kernel
theorem dX3_mirroredY_6 : decode cX3_mirroredY 6 = .ok (.lmul, 1) := by decide +kernel
theorem dX3_mirroredY_7 : decode cX3_mirroredY 7 = .ok (.aload_n 0, 1) := by decide +kernel
theorem dX3_mirroredY_8 : decode cX3_mirroredY 8 = .ok (.ldc2_w 20, 3) := by decide +kernel
theorem dX3_mirroredY_11 : decode cX3_mirroredY 11 = .ok (.iload_n 1, 1) := by decide +kernel
theorem dX3_mirroredY_12 : decode cX3_mirroredY 12 = .ok (.i2l, 1) := by decide +kernel
theorem dX3_mirroredY_13 : decode cX3_mirroredY 13 = .ok (.lmul, 1) := by decide +kernel
theorem dX3_mirroredY_14 : decode cX3_mirroredY 14 = .ok (.ldc2_w 20, 3) := by decide +kernel
theorem dX3_mirroredY_17 : decode cX3_mirroredY 17 = .ok (.iload_n 2, 1) := by decide +kernel
theorem dX3_mirroredY_18 : decode cX3_mirroredY 18 = .ok (.i2l, 1) := by decide +kernel
theorem dX3_mirroredY_19 : decode cX3_mirroredY 19 = .ok (.lmul, 1) := by decide +kernel
theorem dX3_mirroredY_20 : decode cX3_mirroredY 20 = .ok (.invokevirtual 60, 3) := by decide +kernel
theorem dX3_mirroredY_23 : decode cX3_mirroredY 23 = .ok (.aload_n 0, 1) := by decide +kernel
theorem dX3_mirroredY_24 : decode cX3_mirroredY 24 = .ok (.getfield 38, 3) := by decide +kernel
theorem dX3_mirroredY_27 : decode cX3_mirroredY 27 = .ok (.lmul, 1) := by decide +kernel
theorem dX3_mirroredY_28 : decode cX3_mirroredY 28 = .ok (.lsub, 1) := by decide +kernel
theorem dX3_mirroredY_29 : decode cX3_mirroredY 29 = .ok (.lreturn, 1) := by decide +kernel
theorem dX3_meets_0 : decode cX3_meets 0 = .ok (.aload_n 0, 1) := by decide +kernel
theorem dX3_meets_1 : decode cX3_meets 1 = .ok (.lload_n 1, 1) := by decide +kernel
theorem dX3_meets_2 : decode cX3_meets 2 = .ok (.lload_n 3, 1) := by decide +kernel
theorem dX3_meets_3 : decode cX3_meets 3 = .ok (.invokevirtual 60, 3) := by decide +kernel
theorem dX3_meets_6 : decode cX3_meets 6 = .ok (.lstore 9, 2) := by decide +kernel
theorem dX3_meets_8 : decode cX3_meets 8 = .ok (.aload_n 0, 1) := by decide +kernel
theorem dX3_meets_9 : decode cX3_meets 9 = .ok (.lload 5, 2) := by decide +kernel
theorem dX3_meets_11 : decode cX3_meets 11 = .ok (.lload 7, 2) := by decide +kernel
theorem dX3_meets_13 : decode cX3_meets 13 = .ok (.invokevirtual 60, 3) := by decide +kernel
theorem dX3_meets_16 : decode cX3_meets 16 = .ok (.lstore 11, 2) := by decide +kernel
theorem dX3_meets_18 : decode cX3_meets 18 = .ok (.lload 9, 2) := by decide +kernel
theorem dX3_meets_20 : decode cX3_meets 20 = .ok (.lconst 0, 1) := by decide +kernel
theorem dX3_meets_21 : decode cX3_meets 21 = .ok (.lcmp, 1) := by decide +kernel
theorem dX3_meets_22 : decode cX3_meets 22 = .ok (.ifCond .le 14, 3) := by decide +kernel
theorem dX3_meets_25 : decode cX3_meets 25 = .ok (.lload 11, 2) := by decide +kernel
theorem dX3_meets_27 : decode cX3_meets 27 = .ok (.lconst 0, 1) := by decide +kernel
theorem dX3_meets_28 : decode cX3_meets 28 = .ok (.lcmp, 1) := by decide +kernel
theorem dX3_meets_29 : decode cX3_meets 29 = .ok (.ifCond .le 7, 3) := by decide +kernel
theorem dX3_meets_32 : decode cX3_meets 32 = .ok (.iconst 1, 1) := by decide +kernel
theorem dX3_meets_33 : decode cX3_meets 33 = .ok (.goto 4, 3) := by decide +kernel
theorem dX3_meets_36 : decode cX3_meets 36 = .ok (.iconst 0, 1) := by decide +kernel
theorem dX3_meets_37 : decode cX3_meets 37 = .ok (.istore 13, 2) := by decide +kernel
theorem dX3_meets_39 : decode cX3_meets 39 = .ok (.lload 9, 2) := by decide +kernel
theorem dX3_meets_41 : decode cX3_meets 41 = .ok (.lconst 0, 1) := by decide +kernel
theorem dX3_meets_42 : decode cX3_meets 42 = .ok (.lcmp, 1) := by decide +kernel
theorem dX3_meets_43 : decode cX3_meets 43 = .ok (.ifCond .ge 14, 3) := by decide +kernel
theorem dX3_meets_46 : decode cX3_meets 46 = .ok (.lload 11, 2) := by decide +kernel
theorem dX3_meets_48 : decode cX3_meets 48 = .ok (.lconst 0, 1) := by decide +kernel
theorem dX3_meets_49 : decode cX3_meets 49 = .ok (.lcmp, 1) := by decide +kernel
theorem dX3_meets_50 : decode cX3_meets 50 = .ok (.ifCond .ge 7, 3) := by decide +kernel
theorem dX3_meets_53 : decode cX3_meets 53 = .ok (.iconst 1, 1) := by decide +kernel
theorem dX3_meets_54 : decode cX3_meets 54 = .ok (.goto 4, 3) := by decide +kernel
theorem dX3_meets_57 : decode cX3_meets 57 = .ok (.iconst 0, 1) := by decide +kernel
theorem dX3_meets_58 : decode cX3_meets 58 = .ok (.istore 14, 2) := by decide +kernel
theorem dX3_meets_60 : decode cX3_meets 60 = .ok (.iload 13, 2) := by decide +kernel
theorem dX3_meets_62 : decode cX3_meets 62 = .ok (.ifCond .ne 10, 3) := by decide +kernel
theorem dX3_meets_65 : decode cX3_meets 65 = .ok (.iload 14, 2) := by decide +kernel
theorem dX3_meets_67 : decode cX3_meets 67 = .ok (.ifCond .ne 5, 3) := by decide +kernel
theorem dX3_meets_70 : decode cX3_meets 70 = .ok (.iconst 0, 1) := by decide +kernel
theorem dX3_meets_71 : decode cX3_meets 71 = .ok (.ireturn, 1) := by decide +kernel
theorem dX3_meets_72 : decode cX3_meets 72 = .ok (.aload_n 0, 1) := by decide +kernel
theorem dX3_meets_73 : decode cX3_meets 73 = .ok (.aload_n 0, 1) := by decide +kernel
theorem dX3_meets_74 : decode cX3_meets 74 = .ok (.lload_n 1, 1) := by decide +kernel
theorem dX3_meets_75 : decode cX3_meets 75 = .ok (.lload_n 3, 1) := by decide +kernel
theorem dX3_meets_76 : decode cX3_meets 76 = .ok (.invokevirtual 64, 3) := by decide +kernel
theorem dX3_meets_79 : decode cX3_meets 79 = .ok (.lload 11, 2) := by decide +kernel
theorem dX3_meets_81 : decode cX3_meets 81 = .ok (.lmul, 1) := by decide +kernel
theorem dX3_meets_82 : decode cX3_meets 82 = .ok (.aload_n 0, 1) := by decide +kernel
theorem dX3_meets_83 : decode cX3_meets 83 = .ok (.lload 5, 2) := by decide +kernel
theorem dX3_meets_85 : decode cX3_meets 85 = .ok (.lload 7, 2) := by decide +kernel
theorem dX3_meets_87 : decode cX3_meets 87 = .ok (.invokevirtual 64, 3) := by decide +kernel
theorem dX3_meets_90 : decode cX3_meets 90 = .ok (.lload 9, 2) := by decide +kernel
theorem dX3_meets_92 : decode cX3_meets 92 = .ok (.lmul, 1) := by decide +kernel
theorem dX3_meets_93 : decode cX3_meets 93 = .ok (.ladd, 1) := by decide +kernel
theorem dX3_meets_94 : decode cX3_meets 94 = .ok (.putfield 67, 3) := by decide +kernel
theorem dX3_meets_97 : decode cX3_meets 97 = .ok (.aload_n 0, 1) := by decide +kernel
theorem dX3_meets_98 : decode cX3_meets 98 = .ok (.ldc2_w 20, 3) := by decide +kernel
theorem dX3_meets_101 : decode cX3_meets 101 = .ok (.aload_n 0, 1) := by decide +kernel
theorem dX3_meets_102 : decode cX3_meets 102 = .ok (.getfield 44, 3) := by decide +kernel
theorem dX3_meets_105 : decode cX3_meets 105 = .ok (.lmul, 1) := by decide +kernel
theorem dX3_meets_106 : decode cX3_meets 106 = .ok (.lload 9, 2) := by decide +kernel
theorem dX3_meets_108 : decode cX3_meets 108 = .ok (.lload 11, 2) := by decide +kernel
theorem dX3_meets_110 : decode cX3_meets 110 = .ok (.ladd, 1) := by decide +kernel
theorem dX3_meets_111 : decode cX3_meets 111 = .ok (.lmul, 1) := by decide +kernel
theorem dX3_meets_112 : decode cX3_meets 112 = .ok (.putfield 70, 3) := by decide +kernel
theorem dX3_meets_115 : decode cX3_meets 115 = .ok (.iload 14, 2) := by decide +kernel
theorem dX3_meets_117 : decode cX3_meets 117 = .ok (.ifCond .eq 21, 3) := by decide +kernel
theorem dX3_meets_120 : decode cX3_meets 120 = .ok (.aload_n 0, 1) := by decide +kernel
theorem dX3_meets_121 : decode cX3_meets 121 = .ok (.aload_n 0, 1) := by decide +kernel
theorem dX3_meets_122 : decode cX3_meets 122 = .ok (.getfield 67, 3) := by decide +kernel
theorem dX3_meets_125 : decode cX3_meets 125 = .ok (.lneg, 1) := by decide +kernel
theorem dX3_meets_126 : decode cX3_meets 126 = .ok (.putfield 67, 3) := by decide +kernel
theorem dX3_meets_129 : decode cX3_meets 129 = .ok (.aload_n 0, 1) := by decide +kernel
theorem dX3_meets_130 : decode cX3_meets 130 = .ok (.aload_n 0, 1) := by decide +kernel
theorem dX3_meets_131 : decode cX3_meets 131 = .ok (.getfield 70, 3) := by decide +kernel
theorem dX3_meets_134 : decode cX3_meets 134 = .ok (.lneg, 1) := by decide +kernel
theorem dX3_meets_135 : decode cX3_meets 135 = .ok (.putfield 70, 3) := by decide +kernel
theorem dX3_meets_138 : decode cX3_meets 138 = .ok (.aload_n 0, 1) := by decide +kernel
theorem dX3_meets_139 : decode cX3_meets 139 = .ok (.getfield 67, 3) := by decide +kernel
theorem dX3_meets_142 : decode cX3_meets 142 = .ok (.lconst 0, 1) := by decide +kernel
theorem dX3_meets_143 : decode cX3_meets 143 = .ok (.lcmp, 1) := by decide +kernel
theorem dX3_meets_144 : decode cX3_meets 144 = .ok (.ifCond .lt 15, 3) := by decide +kernel
theorem dX3_meets_147 : decode cX3_meets 147 = .ok (.aload_n 0, 1) := by decide +kernel
theorem dX3_meets_148 : decode cX3_meets 148 = .ok (.getfield 67, 3) := by decide +kernel
theorem dX3_meets_151 : decode cX3_meets 151 = .ok (.aload_n 0, 1) := by decide +kernel
theorem dX3_meets_152 : decode cX3_meets 152 = .ok (.getfield 70, 3) := by decide +kernel
theorem dX3_meets_155 : decode cX3_meets 155 = .ok (.lcmp, 1) := by decide +kernel
theorem dX3_meets_156 : decode cX3_meets 156 = .ok (.ifCond .le 5, 3) := by decide +kernel
theorem dX3_meets_159 : decode cX3_meets 159 = .ok (.iconst 0, 1) := by decide +kernel
theorem dX3_meets_160 : decode cX3_meets 160 = .ok (.ireturn, 1) := by decide +kernel
theorem dX3_meets_161 : decode cX3_meets 161 = .ok (.aload_n 0, 1) := by decide +kernel
theorem dX3_meets_162 : decode cX3_meets 162 = .ok (.aload_n 0, 1) := by decide +kernel
theorem dX3_meets_163 : decode cX3_meets 163 = .ok (.getfield 28, 3) := by decide +kernel
theorem dX3_meets_166 : decode cX3_meets 166 = .ok (.aload_n 0, 1) := by decide +kernel
theorem dX3_meets_167 : decode cX3_meets 167 = .ok (.getfield 70, 3) := by decide +kernel
theorem dX3_meets_170 : decode cX3_meets 170 = .ok (.lmul, 1) := by decide +kernel
theorem dX3_meets_171 : decode cX3_meets 171 = .ok (.ldc2_w 20, 3) := by decide +kernel
theorem dX3_meets_174 : decode cX3_meets 174 = .ok (.aload_n 0, 1) := by decide +kernel
theorem dX3_meets_175 : decode cX3_meets 175 = .ok (.getfield 38, 3) := by decide +kernel
theorem dX3_meets_178 : decode cX3_meets 178 = .ok (.lmul, 1) := by decide +kernel
theorem dX3_meets_179 : decode cX3_meets 179 = .ok (.aload_n 0, 1) := by decide +kernel
theorem dX3_meets_180 : decode cX3_meets 180 = .ok (.getfield 67, 3) := by decide +kernel
theorem dX3_meets_183 : decode cX3_meets 183 = .ok (.lmul, 1) := by decide +kernel
theorem dX3_meets_184 : decode cX3_meets 184 = .ok (.ladd, 1) := by decide +kernel
theorem dX3_meets_185 : decode cX3_meets 185 = .ok (.putfield 73, 3) := by decide +kernel
theorem dX3_meets_188 : decode cX3_meets 188 = .ok (.aload_n 0, 1) := by decide +kernel
theorem dX3_meets_189 : decode cX3_meets 189 = .ok (.aload_n 0, 1) := by decide +kernel
theorem dX3_meets_190 : decode cX3_meets 190 = .ok (.getfield 35, 3) := by decide +kernel
theorem dX3_meets_193 : decode cX3_meets 193 = .ok (.aload_n 0, 1) := by decide +kernel
theorem dX3_meets_194 : decode cX3_meets 194 = .ok (.getfield 70, 3) := by decide +kernel
theorem dX3_meets_197 : decode cX3_meets 197 = .ok (.lmul, 1) := by decide +kernel
theorem dX3_meets_198 : decode cX3_meets 198 = .ok (.ldc2_w 20, 3) := by decide +kernel
theorem dX3_meets_201 : decode cX3_meets 201 = .ok (.aload_n 0, 1) := by decide +kernel
theorem dX3_meets_202 : decode cX3_meets 202 = .ok (.getfield 41, 3) := by decide +kernel
theorem dX3_meets_205 : decode cX3_meets 205 = .ok (.lmul, 1) := by decide +kernel
theorem dX3_meets_206 : decode cX3_meets 206 = .ok (.aload_n 0, 1) := by decide +kernel
theorem dX3_meets_207 : decode cX3_meets 207 = .ok (.getfield 67, 3) := by decide +kernel
theorem dX3_meets_210 : decode cX3_meets 210 = .ok (.lmul, 1) := by decide +kernel
theorem dX3_meets_211 : decode cX3_meets 211 = .ok (.ladd, 1) := by decide +kernel
theorem dX3_meets_212 : decode cX3_meets 212 = .ok (.putfield 76, 3) := by decide +kernel
theorem dX3_meets_215 : decode cX3_meets 215 = .ok (.iconst 1, 1) := by decide +kernel
theorem dX3_meets_216 : decode cX3_meets 216 = .ok (.ireturn, 1) := by decide +kernel
theorem dX3_thousandth_0 : decode cX3_thousandth 0 = .ok (.aload_n 0, 1) := by decide +kernel
theorem dX3_thousandth_1 : decode cX3_thousandth 1 = .ok (.getfield 70, 3) := by decide +kernel
theorem dX3_thousandth_4 : decode cX3_thousandth 4 = .ok (.lconst 0, 1) := by decide +kernel
theorem dX3_thousandth_5 : decode cX3_thousandth 5 = .ok (.lcmp, 1) := by decide +kernel
theorem dX3_thousandth_6 : decode cX3_thousandth 6 = .ok (.ifCond .le 20, 3) := by decide +kernel
theorem dX3_thousandth_9 : decode cX3_thousandth 9 = .ok (.ldc2_w 79, 3) := by decide +kernel
theorem dX3_thousandth_12 : decode cX3_thousandth 12 = .ok (.aload_n 0, 1) := by decide +kernel
theorem dX3_thousandth_13 : decode cX3_thousandth 13 = .ok (.getfield 67, 3) := by decide +kernel
theorem dX3_thousandth_16 : decode cX3_thousandth 16 = .ok (.lmul, 1) := by decide +kernel
theorem dX3_thousandth_17 : decode cX3_thousandth 17 = .ok (.aload_n 0, 1) := by decide +kernel
theorem dX3_thousandth_18 : decode cX3_thousandth 18 = .ok (.getfield 70, 3) := by decide +kernel
theorem dX3_thousandth_21 : decode cX3_thousandth 21 = .ok (.ldiv, 1) := by decide +kernel
theorem dX3_thousandth_22 : decode cX3_thousandth 22 = .ok (.l2i, 1) := by decide +kernel
theorem dX3_thousandth_23 : decode cX3_thousandth 23 = .ok (.goto 4, 3) := by decide +kernel
theorem dX3_thousandth_26 : decode cX3_thousandth 26 = .ok (.iconst (-1), 1) := by decide +kernel
theorem dX3_thousandth_27 : decode cX3_thousandth 27 = .ok (.ireturn, 1) := by decide +kernel
theorem dX3_canSee_0 : decode cX3_canSee 0 = .ok (.aload_n 0, 1) := by decide +kernel
theorem dX3_canSee_1 : decode cX3_canSee 1 = .ok (.lload_n 1, 1) := by decide +kernel
theorem dX3_canSee_2 : decode cX3_canSee 2 = .ok (.lload_n 3, 1) := by decide +kernel
theorem dX3_canSee_3 : decode cX3_canSee 3 = .ok (.lload 5, 2) := by decide +kernel
theorem dX3_canSee_5 : decode cX3_canSee 5 = .ok (.lload 7, 2) := by decide +kernel
theorem dX3_canSee_7 : decode cX3_canSee 7 = .ok (.invokevirtual 81, 3) := by decide +kernel
theorem dX3_canSee_10 : decode cX3_canSee 10 = .ok (.ifCond .eq 27, 3) := by decide +kernel
theorem dX3_canSee_13 : decode cX3_canSee 13 = .ok (.aload_n 0, 1) := by decide +kernel
theorem dX3_canSee_14 : decode cX3_canSee 14 = .ok (.lload_n 1, 1) := by decide +kernel
theorem dX3_canSee_15 : decode cX3_canSee 15 = .ok (.lload_n 3, 1) := by decide +kernel
theorem dX3_canSee_16 : decode cX3_canSee 16 = .ok (.invokevirtual 85, 3) := by decide +kernel
theorem dX3_canSee_19 : decode cX3_canSee 19 = .ok (.ifCond .eq 18, 3) := by decide +kernel
theorem dX3_canSee_22 : decode cX3_canSee 22 = .ok (.aload_n 0, 1) := by decide +kernel
theorem dX3_canSee_23 : decode cX3_canSee 23 = .ok (.lload 5, 2) := by decide +kernel
theorem dX3_canSee_25 : decode cX3_canSee 25 = .ok (.lload 7, 2) := by decide +kernel
theorem dX3_canSee_27 : decode cX3_canSee 27 = .ok (.invokevirtual 85, 3) := by decide +kernel
theorem dX3_canSee_30 : decode cX3_canSee 30 = .ok (.ifCond .eq 7, 3) := by decide +kernel
theorem dX3_canSee_33 : decode cX3_canSee 33 = .ok (.iconst 1, 1) := by decide +kernel
theorem dX3_canSee_34 : decode cX3_canSee 34 = .ok (.goto 4, 3) := by decide +kernel
theorem dX3_canSee_37 : decode cX3_canSee 37 = .ok (.iconst 0, 1) := by decide +kernel
theorem dX3_canSee_38 : decode cX3_canSee 38 = .ok (.ireturn, 1) := by decide +kernel
theorem dX3_blockers_0 : decode cX3_blockers 0 = .ok (.aload_n 0, 1) := by decide +kernel
theorem dX3_blockers_1 : decode cX3_blockers 1 = .ok (.lload_n 1, 1) := by decide +kernel
theorem dX3_blockers_2 : decode cX3_blockers 2 = .ok (.lload_n 3, 1) := by decide +kernel
theorem dX3_blockers_3 : decode cX3_blockers 3 = .ok (.invokevirtual 89, 3) := by decide +kernel
theorem dX3_blockers_6 : decode cX3_blockers 6 = .ok (.iconst 0, 1) := by decide +kernel
theorem dX3_blockers_7 : decode cX3_blockers 7 = .ok (.istore 5, 2) := by decide +kernel
theorem dX3_blockers_9 : decode cX3_blockers 9 = .ok (.iconst 0, 1) := by decide +kernel
theorem dX3_blockers_10 : decode cX3_blockers 10 = .ok (.istore 6, 2) := by decide +kernel
theorem dX3_blockers_12 : decode cX3_blockers 12 = .ok (.iload 6, 2) := by decide +kernel
theorem dX3_blockers_14 : decode cX3_blockers 14 = .ok (.bipush 12, 2) := by decide +kernel
theorem dX3_blockers_16 : decode cX3_blockers 16 = .ok (.if_icmp .ge 42, 3) := by decide +kernel
theorem dX3_blockers_19 : decode cX3_blockers 19 = .ok (.aload_n 0, 1) := by decide +kernel
theorem dX3_blockers_20 : decode cX3_blockers 20 = .ok (.getfield 16, 3) := by decide +kernel
theorem dX3_blockers_23 : decode cX3_blockers 23 = .ok (.iload 6, 2) := by decide +kernel
theorem dX3_blockers_25 : decode cX3_blockers 25 = .ok (.baload, 1) := by decide +kernel
theorem dX3_blockers_26 : decode cX3_blockers 26 = .ok (.ifCond .eq 26, 3) := by decide +kernel
theorem dX3_blockers_29 : decode cX3_blockers 29 = .ok (.aload_n 0, 1) := by decide +kernel
theorem dX3_blockers_30 : decode cX3_blockers 30 = .ok (.aload_n 0, 1) := by decide +kernel
theorem dX3_blockers_31 : decode cX3_blockers 31 = .ok (.getfield 11, 3) := by decide +kernel
theorem dX3_blockers_34 : decode cX3_blockers 34 = .ok (.iload 6, 2) := by decide +kernel
theorem dX3_blockers_36 : decode cX3_blockers 36 = .ok (.aaload, 1) := by decide +kernel
theorem dX3_blockers_37 : decode cX3_blockers 37 = .ok (.invokevirtual 93, 3) := by decide +kernel
theorem dX3_blockers_40 : decode cX3_blockers 40 = .ok (.ifCond .eq 12, 3) := by decide +kernel
theorem dX3_blockers_43 : decode cX3_blockers 43 = .ok (.iload 5, 2) := by decide +kernel
theorem dX3_blockers_45 : decode cX3_blockers 45 = .ok (.iconst 1, 1) := by decide +kernel
theorem dX3_blockers_46 : decode cX3_blockers 46 = .ok (.iload 6, 2) := by decide +kernel
theorem dX3_blockers_48 : decode cX3_blockers 48 = .ok (.ishl, 1) := by decide +kernel
theorem dX3_blockers_49 : decode cX3_blockers 49 = .ok (.ior, 1) := by decide +kernel
theorem dX3_blockers_50 : decode cX3_blockers 50 = .ok (.istore 5, 2) := by decide +kernel
theorem dX3_blockers_52 : decode cX3_blockers 52 = .ok (.iinc 6 1, 3) := by decide +kernel
theorem dX3_blockers_55 : decode cX3_blockers 55 = .ok (.goto (-43), 3) := by decide +kernel
theorem dX3_blockers_58 : decode cX3_blockers 58 = .ok (.iload 5, 2) := by decide +kernel
theorem dX3_blockers_60 : decode cX3_blockers 60 = .ok (.ireturn, 1) := by decide +kernel
theorem dX3_isOpen_0 : decode cX3_isOpen 0 = .ok (.aload_n 0, 1) := by decide +kernel
theorem dX3_isOpen_1 : decode cX3_isOpen 1 = .ok (.lload_n 1, 1) := by decide +kernel
theorem dX3_isOpen_2 : decode cX3_isOpen 2 = .ok (.lload_n 3, 1) := by decide +kernel
theorem dX3_isOpen_3 : decode cX3_isOpen 3 = .ok (.invokevirtual 89, 3) := by decide +kernel
theorem dX3_isOpen_6 : decode cX3_isOpen 6 = .ok (.iconst 0, 1) := by decide +kernel
theorem dX3_isOpen_7 : decode cX3_isOpen 7 = .ok (.istore 5, 2) := by decide +kernel
theorem dX3_isOpen_9 : decode cX3_isOpen 9 = .ok (.iload 5, 2) := by decide +kernel
theorem dX3_isOpen_11 : decode cX3_isOpen 11 = .ok (.bipush 12, 2) := by decide +kernel
theorem dX3_isOpen_13 : decode cX3_isOpen 13 = .ok (.if_icmp .ge 35, 3) := by decide +kernel
theorem dX3_isOpen_16 : decode cX3_isOpen 16 = .ok (.aload_n 0, 1) := by decide +kernel
theorem dX3_isOpen_17 : decode cX3_isOpen 17 = .ok (.getfield 16, 3) := by decide +kernel
theorem dX3_isOpen_20 : decode cX3_isOpen 20 = .ok (.iload 5, 2) := by decide +kernel
theorem dX3_isOpen_22 : decode cX3_isOpen 22 = .ok (.baload, 1) := by decide +kernel
theorem dX3_isOpen_23 : decode cX3_isOpen 23 = .ok (.ifCond .eq 19, 3) := by decide +kernel
theorem dX3_isOpen_26 : decode cX3_isOpen 26 = .ok (.aload_n 0, 1) := by decide +kernel
theorem dX3_isOpen_27 : decode cX3_isOpen 27 = .ok (.aload_n 0, 1) := by decide +kernel
theorem dX3_isOpen_28 : decode cX3_isOpen 28 = .ok (.getfield 11, 3) := by decide +kernel
theorem dX3_isOpen_31 : decode cX3_isOpen 31 = .ok (.iload 5, 2) := by decide +kernel
theorem dX3_isOpen_33 : decode cX3_isOpen 33 = .ok (.aaload, 1) := by decide +kernel
theorem dX3_isOpen_34 : decode cX3_isOpen 34 = .ok (.invokevirtual 93, 3) := by decide +kernel
theorem dX3_isOpen_37 : decode cX3_isOpen 37 = .ok (.ifCond .eq 5, 3) := by decide +kernel
theorem dX3_isOpen_40 : decode cX3_isOpen 40 = .ok (.iconst 0, 1) := by decide +kernel
theorem dX3_isOpen_41 : decode cX3_isOpen 41 = .ok (.ireturn, 1) := by decide +kernel
theorem dX3_isOpen_42 : decode cX3_isOpen 42 = .ok (.iinc 5 1, 3) := by decide +kernel
theorem dX3_isOpen_45 : decode cX3_isOpen 45 = .ok (.goto (-36), 3) := by decide +kernel
theorem dX3_isOpen_48 : decode cX3_isOpen 48 = .ok (.iconst 1, 1) := by decide +kernel
theorem dX3_isOpen_49 : decode cX3_isOpen 49 = .ok (.ireturn, 1) := by decide +kernel
theorem dX3_look_0 : decode cX3_look 0 = .ok (.aload_n 0, 1) := by decide +kernel
theorem dX3_look_1 : decode cX3_look 1 = .ok (.lload_n 1, 1) := by decide +kernel
theorem dX3_look_2 : decode cX3_look 2 = .ok (.putfield 97, 3) := by decide +kernel
theorem dX3_look_5 : decode cX3_look 5 = .ok (.aload_n 0, 1) := by decide +kernel
theorem dX3_look_6 : decode cX3_look 6 = .ok (.lload_n 3, 1) := by decide +kernel
theorem dX3_look_7 : decode cX3_look 7 = .ok (.putfield 100, 3) := by decide +kernel
theorem dX3_look_10 : decode cX3_look 10 = .ok (.aload_n 0, 1) := by decide +kernel
theorem dX3_look_11 : decode cX3_look 11 = .ok (.aload_n 0, 1) := by decide +kernel
theorem dX3_look_12 : decode cX3_look 12 = .ok (.getfield 73, 3) := by decide +kernel
theorem dX3_look_15 : decode cX3_look 15 = .ok (.lload_n 1, 1) := by decide +kernel
theorem dX3_look_16 : decode cX3_look 16 = .ok (.aload_n 0, 1) := by decide +kernel
theorem dX3_look_17 : decode cX3_look 17 = .ok (.getfield 70, 3) := by decide +kernel
theorem dX3_look_20 : decode cX3_look 20 = .ok (.lmul, 1) := by decide +kernel
theorem dX3_look_21 : decode cX3_look 21 = .ok (.lsub, 1) := by decide +kernel
theorem dX3_look_22 : decode cX3_look 22 = .ok (.putfield 103, 3) := by decide +kernel
theorem dX3_look_25 : decode cX3_look 25 = .ok (.aload_n 0, 1) := by decide +kernel
theorem dX3_look_26 : decode cX3_look 26 = .ok (.aload_n 0, 1) := by decide +kernel
theorem dX3_look_27 : decode cX3_look 27 = .ok (.getfield 76, 3) := by decide +kernel
theorem dX3_look_30 : decode cX3_look 30 = .ok (.lload_n 3, 1) := by decide +kernel
theorem dX3_look_31 : decode cX3_look 31 = .ok (.aload_n 0, 1) := by decide +kernel
theorem dX3_look_32 : decode cX3_look 32 = .ok (.getfield 70, 3) := by decide +kernel
theorem dX3_look_35 : decode cX3_look 35 = .ok (.lmul, 1) := by decide +kernel
theorem dX3_look_36 : decode cX3_look 36 = .ok (.lsub, 1) := by decide +kernel
theorem dX3_look_37 : decode cX3_look 37 = .ok (.putfield 106, 3) := by decide +kernel
theorem dX3_look_40 : decode cX3_look 40 = .ok (.return_, 1) := by decide +kernel
theorem dX3_isInWay_0 : decode cX3_isInWay 0 = .ok (.aload_n 1, 1) := by decide +kernel
theorem dX3_isInWay_1 : decode cX3_isInWay 1 = .ok (.iconst 0, 1) := by decide +kernel
theorem dX3_isInWay_2 : decode cX3_isInWay 2 = .ok (.laload, 1) := by decide +kernel
theorem dX3_isInWay_3 : decode cX3_isInWay 3 = .ok (.aload_n 0, 1) := by decide +kernel
theorem dX3_isInWay_4 : decode cX3_isInWay 4 = .ok (.getfield 97, 3) := by decide +kernel
theorem dX3_isInWay_7 : decode cX3_isInWay 7 = .ok (.lsub, 1) := by decide +kernel
theorem dX3_isInWay_8 : decode cX3_isInWay 8 = .ok (.lstore_n 2, 1) := by decide +kernel
theorem dX3_isInWay_9 : decode cX3_isInWay 9 = .ok (.aload_n 1, 1) := by decide +kernel
theorem dX3_isInWay_10 : decode cX3_isInWay 10 = .ok (.iconst 1, 1) := by decide +kernel
theorem dX3_isInWay_11 : decode cX3_isInWay 11 = .ok (.laload, 1) := by decide +kernel
theorem dX3_isInWay_12 : decode cX3_isInWay 12 = .ok (.aload_n 0, 1) := by decide +kernel
theorem dX3_isInWay_13 : decode cX3_isInWay 13 = .ok (.getfield 100, 3) := by decide +kernel
theorem dX3_isInWay_16 : decode cX3_isInWay 16 = .ok (.lsub, 1) := by decide +kernel
theorem dX3_isInWay_17 : decode cX3_isInWay 17 = .ok (.lstore 4, 2) := by decide +kernel
theorem dX3_isInWay_19 : decode cX3_isInWay 19 = .ok (.aload_n 1, 1) := by decide +kernel
theorem dX3_isInWay_20 : decode cX3_isInWay 20 = .ok (.iconst 2, 1) := by decide +kernel
theorem dX3_isInWay_21 : decode cX3_isInWay 21 = .ok (.laload, 1) := by decide +kernel
theorem dX3_isInWay_22 : decode cX3_isInWay 22 = .ok (.aload_n 0, 1) := by decide +kernel
theorem dX3_isInWay_23 : decode cX3_isInWay 23 = .ok (.getfield 97, 3) := by decide +kernel
theorem dX3_isInWay_26 : decode cX3_isInWay 26 = .ok (.lsub, 1) := by decide +kernel
theorem dX3_isInWay_27 : decode cX3_isInWay 27 = .ok (.lstore 6, 2) := by decide +kernel
theorem dX3_isInWay_29 : decode cX3_isInWay 29 = .ok (.aload_n 1, 1) := by decide +kernel
theorem dX3_isInWay_30 : decode cX3_isInWay 30 = .ok (.iconst 3, 1) := by decide +kernel
theorem dX3_isInWay_31 : decode cX3_isInWay 31 = .ok (.laload, 1) := by decide +kernel
theorem dX3_isInWay_32 : decode cX3_isInWay 32 = .ok (.aload_n 0, 1) := by decide +kernel
theorem dX3_isInWay_33 : decode cX3_isInWay 33 = .ok (.getfield 100, 3) := by decide +kernel
theorem dX3_isInWay_36 : decode cX3_isInWay 36 = .ok (.lsub, 1) := by decide +kernel
theorem dX3_isInWay_37 : decode cX3_isInWay 37 = .ok (.lstore 8, 2) := by decide +kernel
theorem dX3_isInWay_39 : decode cX3_isInWay 39 = .ok (.aload_n 0, 1) := by decide +kernel
theorem dX3_isInWay_40 : decode cX3_isInWay 40 = .ok (.getfield 103, 3) := by decide +kernel
theorem dX3_isInWay_43 : decode cX3_isInWay 43 = .ok (.lload 4, 2) := by decide +kernel
theorem dX3_isInWay_45 : decode cX3_isInWay 45 = .ok (.lmul, 1) := by decide +kernel
theorem dX3_isInWay_46 : decode cX3_isInWay 46 = .ok (.aload_n 0, 1) := by decide +kernel
theorem dX3_isInWay_47 : decode cX3_isInWay 47 = .ok (.getfield 106, 3) := by decide +kernel
theorem dX3_isInWay_50 : decode cX3_isInWay 50 = .ok (.lload_n 2, 1) := by decide +kernel
theorem dX3_isInWay_51 : decode cX3_isInWay 51 = .ok (.lmul, 1) := by decide +kernel
theorem dX3_isInWay_52 : decode cX3_isInWay 52 = .ok (.lsub, 1) := by decide +kernel
theorem dX3_isInWay_53 : decode cX3_isInWay 53 = .ok (.lstore 10, 2) := by decide +kernel
theorem dX3_isInWay_55 : decode cX3_isInWay 55 = .ok (.aload_n 0, 1) := by decide +kernel
theorem dX3_isInWay_56 : decode cX3_isInWay 56 = .ok (.getfield 103, 3) := by decide +kernel
theorem dX3_isInWay_59 : decode cX3_isInWay 59 = .ok (.lload 8, 2) := by decide +kernel
theorem dX3_isInWay_61 : decode cX3_isInWay 61 = .ok (.lmul, 1) := by decide +kernel
theorem dX3_isInWay_62 : decode cX3_isInWay 62 = .ok (.aload_n 0, 1) := by decide +kernel
theorem dX3_isInWay_63 : decode cX3_isInWay 63 = .ok (.getfield 106, 3) := by decide +kernel
theorem dX3_isInWay_66 : decode cX3_isInWay 66 = .ok (.lload 6, 2) := by decide +kernel
theorem dX3_isInWay_68 : decode cX3_isInWay 68 = .ok (.lmul, 1) := by decide +kernel
theorem dX3_isInWay_69 : decode cX3_isInWay 69 = .ok (.lsub, 1) := by decide +kernel
theorem dX3_isInWay_70 : decode cX3_isInWay 70 = .ok (.lstore 12, 2) := by decide +kernel
theorem dX3_isInWay_72 : decode cX3_isInWay 72 = .ok (.lload 10, 2) := by decide +kernel
theorem dX3_isInWay_74 : decode cX3_isInWay 74 = .ok (.lconst 0, 1) := by decide +kernel
theorem dX3_isInWay_75 : decode cX3_isInWay 75 = .ok (.lcmp, 1) := by decide +kernel
theorem dX3_isInWay_76 : decode cX3_isInWay 76 = .ok (.ifCond .le 10, 3) := by decide +kernel
theorem dX3_isInWay_79 : decode cX3_isInWay 79 = .ok (.lload 12, 2) := by decide +kernel
theorem dX3_isInWay_81 : decode cX3_isInWay 81 = .ok (.lconst 0, 1) := by decide +kernel
theorem dX3_isInWay_82 : decode cX3_isInWay 82 = .ok (.lcmp, 1) := by decide +kernel
theorem dX3_isInWay_83 : decode cX3_isInWay 83 = .ok (.ifCond .gt 17, 3) := by decide +kernel
theorem dX3_isInWay_86 : decode cX3_isInWay 86 = .ok (.lload 10, 2) := by decide +kernel
theorem dX3_isInWay_88 : decode cX3_isInWay 88 = .ok (.lconst 0, 1) := by decide +kernel
theorem dX3_isInWay_89 : decode cX3_isInWay 89 = .ok (.lcmp, 1) := by decide +kernel
theorem dX3_isInWay_90 : decode cX3_isInWay 90 = .ok (.ifCond .ge 12, 3) := by decide +kernel
theorem dX3_isInWay_93 : decode cX3_isInWay 93 = .ok (.lload 12, 2) := by decide +kernel
theorem dX3_isInWay_95 : decode cX3_isInWay 95 = .ok (.lconst 0, 1) := by decide +kernel
theorem dX3_isInWay_96 : decode cX3_isInWay 96 = .ok (.lcmp, 1) := by decide +kernel
theorem dX3_isInWay_97 : decode cX3_isInWay 97 = .ok (.ifCond .ge 5, 3) := by decide +kernel
theorem dX3_isInWay_100 : decode cX3_isInWay 100 = .ok (.iconst 0, 1) := by decide +kernel
theorem dX3_isInWay_101 : decode cX3_isInWay 101 = .ok (.ireturn, 1) := by decide +kernel
theorem dX3_isInWay_102 : decode cX3_isInWay 102 = .ok (.lload 10, 2) := by decide +kernel
theorem dX3_isInWay_104 : decode cX3_isInWay 104 = .ok (.lconst 0, 1) := by decide +kernel
theorem dX3_isInWay_105 : decode cX3_isInWay 105 = .ok (.lcmp, 1) := by decide +kernel
theorem dX3_isInWay_106 : decode cX3_isInWay 106 = .ok (.ifCond .ne 46, 3) := by decide +kernel
theorem dX3_isInWay_109 : decode cX3_isInWay 109 = .ok (.lload 12, 2) := by decide +kernel
theorem dX3_isInWay_111 : decode cX3_isInWay 111 = .ok (.lconst 0, 1) := by decide +kernel
theorem dX3_isInWay_112 : decode cX3_isInWay 112 = .ok (.lcmp, 1) := by decide +kernel
theorem dX3_isInWay_113 : decode cX3_isInWay 113 = .ok (.ifCond .ne 39, 3) := by decide +kernel
theorem dX3_isInWay_116 : decode cX3_isInWay 116 = .ok (.aload_n 0, 1) := by decide +kernel
theorem dX3_isInWay_117 : decode cX3_isInWay 117 = .ok (.getfield 103, 3) := by decide +kernel
theorem dX3_isInWay_120 : decode cX3_isInWay 120 = .ok (.lconst 0, 1) := by decide +kernel
theorem dX3_isInWay_121 : decode cX3_isInWay 121 = .ok (.lcmp, 1) := by decide +kernel
theorem dX3_isInWay_122 : decode cX3_isInWay 122 = .ok (.ifCond .eq 17, 3) := by decide +kernel
theorem dX3_isInWay_125 : decode cX3_isInWay 125 = .ok (.aload_n 0, 1) := by decide +kernel
theorem dX3_isInWay_126 : decode cX3_isInWay 126 = .ok (.lload_n 2, 1) := by decide +kernel
theorem dX3_isInWay_127 : decode cX3_isInWay 127 = .ok (.lload 6, 2) := by decide +kernel
theorem dX3_isInWay_129 : decode cX3_isInWay 129 = .ok (.aload_n 0, 1) := by decide +kernel
theorem dX3_isInWay_130 : decode cX3_isInWay 130 = .ok (.getfield 103, 3) := by decide +kernel
theorem dX3_isInWay_133 : decode cX3_isInWay 133 = .ok (.invokevirtual 109, 3) := by decide +kernel
theorem dX3_isInWay_136 : decode cX3_isInWay 136 = .ok (.goto 15, 3) := by decide +kernel
theorem dX3_isInWay_139 : decode cX3_isInWay 139 = .ok (.aload_n 0, 1) := by decide +kernel
theorem dX3_isInWay_140 : decode cX3_isInWay 140 = .ok (.lload 4, 2) := by decide +kernel
theorem dX3_isInWay_142 : decode cX3_isInWay 142 = .ok (.lload 8, 2) := by decide +kernel
theorem dX3_isInWay_144 : decode cX3_isInWay 144 = .ok (.aload_n 0, 1) := by decide +kernel
theorem dX3_isInWay_145 : decode cX3_isInWay 145 = .ok (.getfield 106, 3) := by decide +kernel
theorem dX3_isInWay_148 : decode cX3_isInWay 148 = .ok (.invokevirtual 109, 3) := by decide +kernel
theorem dX3_isInWay_151 : decode cX3_isInWay 151 = .ok (.ireturn, 1) := by decide +kernel
theorem dX3_isInWay_152 : decode cX3_isInWay 152 = .ok (.aload_n 0, 1) := by decide +kernel
theorem dX3_isInWay_153 : decode cX3_isInWay 153 = .ok (.getfield 70, 3) := by decide +kernel
theorem dX3_isInWay_156 : decode cX3_isInWay 156 = .ok (.lload_n 2, 1) := by decide +kernel
theorem dX3_isInWay_157 : decode cX3_isInWay 157 = .ok (.lload 8, 2) := by decide +kernel
theorem dX3_isInWay_159 : decode cX3_isInWay 159 = .ok (.lmul, 1) := by decide +kernel
theorem dX3_isInWay_160 : decode cX3_isInWay 160 = .ok (.lload 4, 2) := by decide +kernel
theorem dX3_isInWay_162 : decode cX3_isInWay 162 = .ok (.lload 6, 2) := by decide +kernel
theorem dX3_isInWay_164 : decode cX3_isInWay 164 = .ok (.lmul, 1) := by decide +kernel
theorem dX3_isInWay_165 : decode cX3_isInWay 165 = .ok (.lsub, 1) := by decide +kernel
theorem dX3_isInWay_166 : decode cX3_isInWay 166 = .ok (.lmul, 1) := by decide +kernel
theorem dX3_isInWay_167 : decode cX3_isInWay 167 = .ok (.lstore 14, 2) := by decide +kernel
theorem dX3_isInWay_169 : decode cX3_isInWay 169 = .ok (.lload 14, 2) := by decide +kernel
theorem dX3_isInWay_171 : decode cX3_isInWay 171 = .ok (.lload 10, 2) := by decide +kernel
theorem dX3_isInWay_173 : decode cX3_isInWay 173 = .ok (.ladd, 1) := by decide +kernel
theorem dX3_isInWay_174 : decode cX3_isInWay 174 = .ok (.lload 12, 2) := by decide +kernel
theorem dX3_isInWay_176 : decode cX3_isInWay 176 = .ok (.lsub, 1) := by decide +kernel
theorem dX3_isInWay_177 : decode cX3_isInWay 177 = .ok (.lstore 16, 2) := by decide +kernel
theorem dX3_isInWay_179 : decode cX3_isInWay 179 = .ok (.lload 14, 2) := by decide +kernel
theorem dX3_isInWay_181 : decode cX3_isInWay 181 = .ok (.lconst 0, 1) := by decide +kernel
theorem dX3_isInWay_182 : decode cX3_isInWay 182 = .ok (.lcmp, 1) := by decide +kernel
theorem dX3_isInWay_183 : decode cX3_isInWay 183 = .ok (.ifCond .le 10, 3) := by decide +kernel
theorem dX3_isInWay_186 : decode cX3_isInWay 186 = .ok (.lload 16, 2) := by decide +kernel
theorem dX3_isInWay_188 : decode cX3_isInWay 188 = .ok (.lconst 0, 1) := by decide +kernel
theorem dX3_isInWay_189 : decode cX3_isInWay 189 = .ok (.lcmp, 1) := by decide +kernel
theorem dX3_isInWay_190 : decode cX3_isInWay 190 = .ok (.ifCond .lt 17, 3) := by decide +kernel
theorem dX3_isInWay_193 : decode cX3_isInWay 193 = .ok (.lload 14, 2) := by decide +kernel
theorem dX3_isInWay_195 : decode cX3_isInWay 195 = .ok (.lconst 0, 1) := by decide +kernel
theorem dX3_isInWay_196 : decode cX3_isInWay 196 = .ok (.lcmp, 1) := by decide +kernel
theorem dX3_isInWay_197 : decode cX3_isInWay 197 = .ok (.ifCond .ge 14, 3) := by decide +kernel
theorem dX3_isInWay_200 : decode cX3_isInWay 200 = .ok (.lload 16, 2) := by decide +kernel
theorem dX3_isInWay_202 : decode cX3_isInWay 202 = .ok (.lconst 0, 1) := by decide +kernel
theorem dX3_isInWay_203 : decode cX3_isInWay 203 = .ok (.lcmp, 1) := by decide +kernel
theorem dX3_isInWay_204 : decode cX3_isInWay 204 = .ok (.ifCond .le 7, 3) := by decide +kernel
theorem dX3_isInWay_207 : decode cX3_isInWay 207 = .ok (.iconst 1, 1) := by decide +kernel
theorem dX3_isInWay_208 : decode cX3_isInWay 208 = .ok (.goto 4, 3) := by decide +kernel
theorem dX3_isInWay_211 : decode cX3_isInWay 211 = .ok (.iconst 0, 1) := by decide +kernel
theorem dX3_isInWay_212 : decode cX3_isInWay 212 = .ok (.ireturn, 1) := by decide +kernel
theorem dX3_overlaps_0 : decode cX3_overlaps 0 = .ok (.lload_n 1, 1) := by decide +kernel
theorem dX3_overlaps_1 : decode cX3_overlaps 1 = .ok (.lload_n 3, 1) := by decide +kernel
theorem dX3_overlaps_2 : decode cX3_overlaps 2 = .ok (.lcmp, 1) := by decide +kernel
theorem dX3_overlaps_3 : decode cX3_overlaps 3 = .ok (.ifCond .ge 7, 3) := by decide +kernel
theorem dX3_overlaps_6 : decode cX3_overlaps 6 = .ok (.lload_n 1, 1) := by decide +kernel
theorem dX3_overlaps_7 : decode cX3_overlaps 7 = .ok (.goto 4, 3) := by decide +kernel
theorem dX3_overlaps_10 : decode cX3_overlaps 10 = .ok (.lload_n 3, 1) := by decide +kernel
theorem dX3_overlaps_11 : decode cX3_overlaps 11 = .ok (.lstore 7, 2) := by decide +kernel
theorem dX3_overlaps_13 : decode cX3_overlaps 13 = .ok (.lload_n 1, 1) := by decide +kernel
theorem dX3_overlaps_14 : decode cX3_overlaps 14 = .ok (.lload_n 3, 1) := by decide +kernel
theorem dX3_overlaps_15 : decode cX3_overlaps 15 = .ok (.lcmp, 1) := by decide +kernel
theorem dX3_overlaps_16 : decode cX3_overlaps 16 = .ok (.ifCond .ge 7, 3) := by decide +kernel
theorem dX3_overlaps_19 : decode cX3_overlaps 19 = .ok (.lload_n 3, 1) := by decide +kernel
theorem dX3_overlaps_20 : decode cX3_overlaps 20 = .ok (.goto 4, 3) := by decide +kernel
theorem dX3_overlaps_23 : decode cX3_overlaps 23 = .ok (.lload_n 1, 1) := by decide +kernel
theorem dX3_overlaps_24 : decode cX3_overlaps 24 = .ok (.lstore 9, 2) := by decide +kernel
theorem dX3_overlaps_26 : decode cX3_overlaps 26 = .ok (.lload 5, 2) := by decide +kernel
theorem dX3_overlaps_28 : decode cX3_overlaps 28 = .ok (.lconst 0, 1) := by decide +kernel
theorem dX3_overlaps_29 : decode cX3_overlaps 29 = .ok (.lcmp, 1) := by decide +kernel
theorem dX3_overlaps_30 : decode cX3_overlaps 30 = .ok (.ifCond .le 29, 3) := by decide +kernel
theorem dX3_overlaps_33 : decode cX3_overlaps 33 = .ok (.lload 9, 2) := by decide +kernel
theorem dX3_overlaps_35 : decode cX3_overlaps 35 = .ok (.lconst 0, 1) := by decide +kernel
theorem dX3_overlaps_36 : decode cX3_overlaps 36 = .ok (.lcmp, 1) := by decide +kernel
theorem dX3_overlaps_37 : decode cX3_overlaps 37 = .ok (.ifCond .le 20, 3) := by decide +kernel
theorem dX3_overlaps_40 : decode cX3_overlaps 40 = .ok (.lload 7, 2) := by decide +kernel
theorem dX3_overlaps_42 : decode cX3_overlaps 42 = .ok (.aload_n 0, 1) := by decide +kernel
theorem dX3_overlaps_43 : decode cX3_overlaps 43 = .ok (.getfield 70, 3) := by decide +kernel
theorem dX3_overlaps_46 : decode cX3_overlaps 46 = .ok (.lmul, 1) := by decide +kernel
theorem dX3_overlaps_47 : decode cX3_overlaps 47 = .ok (.lload 5, 2) := by decide +kernel
theorem dX3_overlaps_49 : decode cX3_overlaps 49 = .ok (.lcmp, 1) := by decide +kernel
theorem dX3_overlaps_50 : decode cX3_overlaps 50 = .ok (.ifCond .ge 7, 3) := by decide +kernel
theorem dX3_overlaps_53 : decode cX3_overlaps 53 = .ok (.iconst 1, 1) := by decide +kernel
theorem dX3_overlaps_54 : decode cX3_overlaps 54 = .ok (.goto 4, 3) := by decide +kernel
theorem dX3_overlaps_57 : decode cX3_overlaps 57 = .ok (.iconst 0, 1) := by decide +kernel
theorem dX3_overlaps_58 : decode cX3_overlaps 58 = .ok (.ireturn, 1) := by decide +kernel
theorem dX3_overlaps_59 : decode cX3_overlaps 59 = .ok (.lload 7, 2) := by decide +kernel
theorem dX3_overlaps_61 : decode cX3_overlaps 61 = .ok (.lconst 0, 1) := by decide +kernel
theorem dX3_overlaps_62 : decode cX3_overlaps 62 = .ok (.lcmp, 1) := by decide +kernel
theorem dX3_overlaps_63 : decode cX3_overlaps 63 = .ok (.ifCond .ge 20, 3) := by decide +kernel
theorem dX3_overlaps_66 : decode cX3_overlaps 66 = .ok (.lload 9, 2) := by decide +kernel
theorem dX3_overlaps_68 : decode cX3_overlaps 68 = .ok (.aload_n 0, 1) := by decide +kernel
theorem dX3_overlaps_69 : decode cX3_overlaps 69 = .ok (.getfield 70, 3) := by decide +kernel
theorem dX3_overlaps_72 : decode cX3_overlaps 72 = .ok (.lmul, 1) := by decide +kernel
theorem dX3_overlaps_73 : decode cX3_overlaps 73 = .ok (.lload 5, 2) := by decide +kernel
theorem dX3_overlaps_75 : decode cX3_overlaps 75 = .ok (.lcmp, 1) := by decide +kernel
theorem dX3_overlaps_76 : decode cX3_overlaps 76 = .ok (.ifCond .le 7, 3) := by decide +kernel
theorem dX3_overlaps_79 : decode cX3_overlaps 79 = .ok (.iconst 1, 1) := by decide +kernel
theorem dX3_overlaps_80 : decode cX3_overlaps 80 = .ok (.goto 4, 3) := by decide +kernel
theorem dX3_overlaps_83 : decode cX3_overlaps 83 = .ok (.iconst 0, 1) := by decide +kernel
theorem dX3_overlaps_84 : decode cX3_overlaps 84 = .ok (.ireturn, 1) := by decide +kernel
theorem dX4_init_0 : decode cX4_init 0 = .ok (.aload_n 0, 1) := by decide +kernel
theorem dX4_init_1 : decode cX4_init 1 = .ok (.invokespecial 3, 3) := by decide +kernel
theorem dX4_init_4 : decode cX4_init 4 = .ok (.return_, 1) := by decide +kernel
theorem dX4_clear_0 : decode cX4_clear 0 = .ok (.aload_n 0, 1) := by decide +kernel
theorem dX4_clear_1 : decode cX4_clear 1 = .ok (.iconst 0, 1) := by decide +kernel
theorem dX4_clear_2 : decode cX4_clear 2 = .ok (.putfield 9, 3) := by decide +kernel
theorem dX4_clear_5 : decode cX4_clear 5 = .ok (.aload_n 0, 1) := by decide +kernel
theorem dX4_clear_6 : decode cX4_clear 6 = .ok (.iconst 0, 1) := by decide +kernel
theorem dX4_clear_7 : decode cX4_clear 7 = .ok (.putfield 15, 3) := by decide +kernel
theorem dX4_clear_10 : decode cX4_clear 10 = .ok (.return_, 1) := by decide +kernel
theorem dX4_lay_0 : decode cX4_lay 0 = .ok (.aload_n 0, 1) := by decide +kernel
theorem dX4_lay_1 : decode cX4_lay 1 = .ok (.iload_n 1, 1) := by decide +kernel
theorem dX4_lay_2 : decode cX4_lay 2 = .ok (.putfield 9, 3) := by decide +kernel
theorem dX4_lay_5 : decode cX4_lay 5 = .ok (.aload_n 0, 1) := by decide +kernel
theorem dX4_lay_6 : decode cX4_lay 6 = .ok (.iload_n 2, 1) := by decide +kernel
theorem dX4_lay_7 : decode cX4_lay 7 = .ok (.putfield 18, 3) := by decide +kernel
theorem dX4_lay_10 : decode cX4_lay 10 = .ok (.aload_n 0, 1) := by decide +kernel
theorem dX4_lay_11 : decode cX4_lay 11 = .ok (.iload_n 3, 1) := by decide +kernel
theorem dX4_lay_12 : decode cX4_lay 12 = .ok (.putfield 21, 3) := by decide +kernel
theorem dX4_lay_15 : decode cX4_lay 15 = .ok (.aload_n 0, 1) := by decide +kernel
theorem dX4_lay_16 : decode cX4_lay 16 = .ok (.iload 4, 2) := by decide +kernel
theorem dX4_lay_18 : decode cX4_lay 18 = .ok (.putfield 15, 3) := by decide +kernel
theorem dX4_lay_21 : decode cX4_lay 21 = .ok (.aload_n 0, 1) := by decide +kernel
theorem dX4_lay_22 : decode cX4_lay 22 = .ok (.iload 5, 2) := by decide +kernel
theorem dX4_lay_24 : decode cX4_lay 24 = .ok (.putfield 24, 3) := by decide +kernel
theorem dX4_lay_27 : decode cX4_lay 27 = .ok (.return_, 1) := by decide +kernel
theorem dX4_settings_0 : decode cX4_settings 0 = .ok (.aload_n 0, 1) := by decide +kernel
theorem dX4_settings_1 : decode cX4_settings 1 = .ok (.getfield 9, 3) := by decide +kernel
theorem dX4_settings_4 : decode cX4_settings 4 = .ok (.aload_n 0, 1) := by decide +kernel
theorem dX4_settings_5 : decode cX4_settings 5 = .ok (.getfield 15, 3) := by decide +kernel
theorem dX4_settings_8 : decode cX4_settings 8 = .ok (.imul, 1) := by decide +kernel
theorem dX4_settings_9 : decode cX4_settings 9 = .ok (.ireturn, 1) := by decide +kernel
theorem dX4_canBe_0 : decode cX4_canBe 0 = .ok (.iconst 0, 1) := by decide +kernel
theorem dX4_canBe_1 : decode cX4_canBe 1 = .ok (.istore_n 2, 1) := by decide +kernel
theorem dX4_canBe_2 : decode cX4_canBe 2 = .ok (.iload_n 2, 1) := by decide +kernel
theorem dX4_canBe_3 : decode cX4_canBe 3 = .ok (.aload_n 0, 1) := by decide +kernel
theorem dX4_canBe_4 : decode cX4_canBe 4 = .ok (.getfield 9, 3) := by decide +kernel
theorem dX4_canBe_7 : decode cX4_canBe 7 = .ok (.if_icmp .ge 47, 3) := by decide +kernel
theorem dX4_canBe_10 : decode cX4_canBe 10 = .ok (.aload_n 1, 1) := by decide +kernel
theorem dX4_canBe_11 : decode cX4_canBe 11 = .ok (.getfield 27, 3) := by decide +kernel
theorem dX4_canBe_14 : decode cX4_canBe 14 = .ok (.aload_n 1, 1) := by decide +kernel
theorem dX4_canBe_15 : decode cX4_canBe 15 = .ok (.getfield 32, 3) := by decide +kernel
theorem dX4_canBe_18 : decode cX4_canBe 18 = .ok (.aload_n 1, 1) := by decide +kernel
theorem dX4_canBe_19 : decode cX4_canBe 19 = .ok (.getfield 35, 3) := by decide +kernel
theorem dX4_canBe_22 : decode cX4_canBe 22 = .ok (.iload_n 2, 1) := by decide +kernel
theorem dX4_canBe_23 : decode cX4_canBe 23 = .ok (.aload_n 0, 1) := by decide +kernel
theorem dX4_canBe_24 : decode cX4_canBe 24 = .ok (.getfield 18, 3) := by decide +kernel
theorem dX4_canBe_27 : decode cX4_canBe 27 = .ok (.imul, 1) := by decide +kernel
theorem dX4_canBe_28 : decode cX4_canBe 28 = .ok (.iadd, 1) := by decide +kernel
theorem dX4_canBe_29 : decode cX4_canBe 29 = .ok (.aload_n 1, 1) := by decide +kernel
theorem dX4_canBe_30 : decode cX4_canBe 30 = .ok (.getfield 38, 3) := by decide +kernel
theorem dX4_canBe_33 : decode cX4_canBe 33 = .ok (.iload_n 2, 1) := by decide +kernel
theorem dX4_canBe_34 : decode cX4_canBe 34 = .ok (.aload_n 0, 1) := by decide +kernel
theorem dX4_canBe_35 : decode cX4_canBe 35 = .ok (.getfield 21, 3) := by decide +kernel
theorem dX4_canBe_38 : decode cX4_canBe 38 = .ok (.imul, 1) := by decide +kernel
theorem dX4_canBe_39 : decode cX4_canBe 39 = .ok (.iadd, 1) := by decide +kernel
theorem dX4_canBe_40 : decode cX4_canBe 40 = .ok (.invokestatic 41, 3) := by decide +kernel
theorem dX4_canBe_43 : decode cX4_canBe 43 = .ok (.ifCond .ne 5, 3) := by decide +kernel
theorem dX4_canBe_46 : decode cX4_canBe 46 = .ok (.iconst 0, 1) := by decide +kernel
theorem dX4_canBe_47 : decode cX4_canBe 47 = .ok (.ireturn, 1) := by decide +kernel
theorem dX4_canBe_48 : decode cX4_canBe 48 = .ok (.iinc 2 1, 3) := by decide +kernel
theorem dX4_canBe_51 : decode cX4_canBe 51 = .ok (.goto (-49), 3) := by decide +kernel
theorem dX4_canBe_54 : decode cX4_canBe 54 = .ok (.aload_n 0, 1) := by decide +kernel
theorem dX4_canBe_55 : decode cX4_canBe 55 = .ok (.getfield 9, 3) := by decide +kernel
theorem dX4_canBe_58 : decode cX4_canBe 58 = .ok (.ifCond .le 35, 3) := by decide +kernel
theorem dX4_canBe_61 : decode cX4_canBe 61 = .ok (.aload_n 0, 1) := by decide +kernel
theorem dX4_canBe_62 : decode cX4_canBe 62 = .ok (.getfield 15, 3) := by decide +kernel
theorem dX4_canBe_65 : decode cX4_canBe 65 = .ok (.ifCond .le 28, 3) := by decide +kernel
theorem dX4_canBe_68 : decode cX4_canBe 68 = .ok (.aload_n 1, 1) := by decide +kernel
theorem dX4_canBe_69 : decode cX4_canBe 69 = .ok (.getfield 45, 3) := by decide +kernel
theorem dX4_canBe_72 : decode cX4_canBe 72 = .ok (.aload_n 0, 1) := by decide +kernel
theorem dX4_canBe_73 : decode cX4_canBe 73 = .ok (.getfield 15, 3) := by decide +kernel
theorem dX4_canBe_76 : decode cX4_canBe 76 = .ok (.iconst 1, 1) := by decide +kernel
theorem dX4_canBe_77 : decode cX4_canBe 77 = .ok (.isub, 1) := by decide +kernel
theorem dX4_canBe_78 : decode cX4_canBe 78 = .ok (.aload_n 0, 1) := by decide +kernel
theorem dX4_canBe_79 : decode cX4_canBe 79 = .ok (.getfield 24, 3) := by decide +kernel
theorem dX4_canBe_82 : decode cX4_canBe 82 = .ok (.imul, 1) := by decide +kernel
theorem dX4_canBe_83 : decode cX4_canBe 83 = .ok (.iadd, 1) := by decide +kernel
theorem dX4_canBe_84 : decode cX4_canBe 84 = .ok (.bipush 60, 2) := by decide +kernel
theorem dX4_canBe_86 : decode cX4_canBe 86 = .ok (.if_icmp .gt 7, 3) := by decide +kernel
theorem dX4_canBe_89 : decode cX4_canBe 89 = .ok (.iconst 1, 1) := by decide +kernel
theorem dX4_canBe_90 : decode cX4_canBe 90 = .ok (.goto 4, 3) := by decide +kernel
theorem dX4_canBe_93 : decode cX4_canBe 93 = .ok (.iconst 0, 1) := by decide +kernel
theorem dX4_canBe_94 : decode cX4_canBe 94 = .ok (.ireturn, 1) := by decide +kernel
theorem dX4_endX_0 : decode cX4_endX 0 = .ok (.aload_n 1, 1) := by decide +kernel
theorem dX4_endX_1 : decode cX4_endX 1 = .ok (.getfield 35, 3) := by decide +kernel
theorem dX4_endX_4 : decode cX4_endX 4 = .ok (.aload_n 0, 1) := by decide +kernel
theorem dX4_endX_5 : decode cX4_endX 5 = .ok (.iload_n 2, 1) := by decide +kernel
theorem dX4_endX_6 : decode cX4_endX 6 = .ok (.invokevirtual 48, 3) := by decide +kernel
theorem dX4_endX_9 : decode cX4_endX 9 = .ok (.aload_n 0, 1) := by decide +kernel
theorem dX4_endX_10 : decode cX4_endX 10 = .ok (.getfield 18, 3) := by decide +kernel
theorem dX4_endX_13 : decode cX4_endX 13 = .ok (.imul, 1) := by decide +kernel
theorem dX4_endX_14 : decode cX4_endX 14 = .ok (.iadd, 1) := by decide +kernel
theorem dX4_endX_15 : decode cX4_endX 15 = .ok (.ireturn, 1) := by decide +kernel
theorem dX4_endY_0 : decode cX4_endY 0 = .ok (.aload_n 1, 1) := by decide +kernel
theorem dX4_endY_1 : decode cX4_endY 1 = .ok (.getfield 38, 3) := by decide +kernel
theorem dX4_endY_4 : decode cX4_endY 4 = .ok (.aload_n 0, 1) := by decide +kernel
theorem dX4_endY_5 : decode cX4_endY 5 = .ok (.iload_n 2, 1) := by decide +kernel
theorem dX4_endY_6 : decode cX4_endY 6 = .ok (.invokevirtual 48, 3) := by decide +kernel
theorem dX4_endY_9 : decode cX4_endY 9 = .ok (.aload_n 0, 1) := by decide +kernel
theorem dX4_endY_10 : decode cX4_endY 10 = .ok (.getfield 21, 3) := by decide +kernel
theorem dX4_endY_13 : decode cX4_endY 13 = .ok (.imul, 1) := by decide +kernel
theorem dX4_endY_14 : decode cX4_endY 14 = .ok (.iadd, 1) := by decide +kernel
theorem dX4_endY_15 : decode cX4_endY 15 = .ok (.ireturn, 1) := by decide +kernel
theorem dX4_depth_0 : decode cX4_depth 0 = .ok (.aload_n 1, 1) := by decide +kernel
theorem dX4_depth_1 : decode cX4_depth 1 = .ok (.getfield 45, 3) := by decide +kernel
theorem dX4_depth_4 : decode cX4_depth 4 = .ok (.iload_n 2, 1) := by decide +kernel
theorem dX4_depth_5 : decode cX4_depth 5 = .ok (.aload_n 0, 1) := by decide +kernel
theorem dX4_depth_6 : decode cX4_depth 6 = .ok (.iload_n 2, 1) := by decide +kernel
theorem dX4_depth_7 : decode cX4_depth 7 = .ok (.invokevirtual 48, 3) := by decide +kernel
theorem dX4_depth_10 : decode cX4_depth 10 = .ok (.aload_n 0, 1) := by decide +kernel
theorem dX4_depth_11 : decode cX4_depth 11 = .ok (.getfield 15, 3) := by decide +kernel
theorem dX4_depth_14 : decode cX4_depth 14 = .ok (.imul, 1) := by decide +kernel
theorem dX4_depth_15 : decode cX4_depth 15 = .ok (.isub, 1) := by decide +kernel
theorem dX4_depth_16 : decode cX4_depth 16 = .ok (.aload_n 0, 1) := by decide +kernel
theorem dX4_depth_17 : decode cX4_depth 17 = .ok (.getfield 24, 3) := by decide +kernel
theorem dX4_depth_20 : decode cX4_depth 20 = .ok (.imul, 1) := by decide +kernel
theorem dX4_depth_21 : decode cX4_depth 21 = .ok (.iadd, 1) := by decide +kernel
theorem dX4_depth_22 : decode cX4_depth 22 = .ok (.ireturn, 1) := by decide +kernel
theorem dX4_row_0 : decode cX4_row 0 = .ok (.aload_n 0, 1) := by decide +kernel
theorem dX4_row_1 : decode cX4_row 1 = .ok (.getfield 15, 3) := by decide +kernel
theorem dX4_row_4 : decode cX4_row 4 = .ok (.ifCond .le 12, 3) := by decide +kernel
theorem dX4_row_7 : decode cX4_row 7 = .ok (.iload_n 1, 1) := by decide +kernel
theorem dX4_row_8 : decode cX4_row 8 = .ok (.aload_n 0, 1) := by decide +kernel
theorem dX4_row_9 : decode cX4_row 9 = .ok (.getfield 15, 3) := by decide +kernel
theorem dX4_row_12 : decode cX4_row 12 = .ok (.idiv, 1) := by decide +kernel
theorem dX4_row_13 : decode cX4_row 13 = .ok (.goto 4, 3) := by decide +kernel
theorem dX4_row_16 : decode cX4_row 16 = .ok (.iconst 0, 1) := by decide +kernel
theorem dX4_row_17 : decode cX4_row 17 = .ok (.ireturn, 1) := by decide +kernel
theorem dX5_init_0 : decode cX5_init 0 = .ok (.aload_n 0, 1) := by decide +kernel
theorem dX5_init_1 : decode cX5_init 1 = .ok (.invokespecial 3, 3) := by decide +kernel
theorem dX5_init_4 : decode cX5_init 4 = .ok (.aload_n 0, 1) := by decide +kernel
theorem dX5_init_5 : decode cX5_init 5 = .ok (.sipush 1000, 3) := by decide +kernel
theorem dX5_init_8 : decode cX5_init 8 = .ok (.newarray .int, 2) := by decide +kernel
theorem dX5_init_10 : decode cX5_init 10 = .ok (.putfield 11, 3) := by decide +kernel
theorem dX5_init_13 : decode cX5_init 13 = .ok (.aload_n 0, 1) := by decide +kernel
theorem dX5_init_14 : decode cX5_init 14 = .ok (.sipush 1001, 3) := by decide +kernel
theorem dX5_init_17 : decode cX5_init 17 = .ok (.newarray .boolean, 2) := by decide +kernel
theorem dX5_init_19 : decode cX5_init 19 = .ok (.putfield 15, 3) := by decide +kernel
theorem dX5_init_22 : decode cX5_init 22 = .ok (.aload_n 0, 1) := by decide +kernel
theorem dX5_init_23 : decode cX5_init 23 = .ok (.sipush 1001, 3) := by decide +kernel
theorem dX5_init_26 : decode cX5_init 26 = .ok (.newarray .boolean, 2) := by decide +kernel
theorem dX5_init_28 : decode cX5_init 28 = .ok (.putfield 19, 3) := by decide +kernel
theorem dX5_init_31 : decode cX5_init 31 = .ok (.return_, 1) := by decide +kernel
theorem dX5_clearFaces_0 : decode cX5_clearFaces 0 = .ok (.iconst 0, 1) := by decide +kernel
theorem dX5_clearFaces_1 : decode cX5_clearFaces 1 = .ok (.istore_n 1, 1) := by decide +kernel
theorem dX5_clearFaces_2 : decode cX5_clearFaces 2 = .ok (.iload_n 1, 1) := by decide +kernel
theorem dX5_clearFaces_3 : decode cX5_clearFaces 3 = .ok (.sipush 1000, 3) := by decide +kernel
theorem dX5_clearFaces_6 : decode cX5_clearFaces 6 = .ok (.if_icmp .gt 23, 3) := by decide +kernel
theorem dX5_clearFaces_9 : decode cX5_clearFaces 9 = .ok (.aload_n 0, 1) := by decide +kernel
theorem dX5_clearFaces_10 : decode cX5_clearFaces 10 = .ok (.getfield 15, 3) := by decide +kernel
theorem dX5_clearFaces_13 : decode cX5_clearFaces 13 = .ok (.iload_n 1, 1) := by decide +kernel
theorem dX5_clearFaces_14 : decode cX5_clearFaces 14 = .ok (.iconst 0, 1) := by decide +kernel
theorem dX5_clearFaces_15 : decode cX5_clearFaces 15 = .ok (.bastore, 1) := by decide +kernel
theorem dX5_clearFaces_16 : decode cX5_clearFaces 16 = .ok (.aload_n 0, 1) := by decide +kernel
theorem dX5_clearFaces_17 : decode cX5_clearFaces 17 = .ok (.getfield 19, 3) := by decide +kernel
theorem dX5_clearFaces_20 : decode cX5_clearFaces 20 = .ok (.iload_n 1, 1) := by decide +kernel
theorem dX5_clearFaces_21 : decode cX5_clearFaces 21 = .ok (.iconst 0, 1) := by decide +kernel
theorem dX5_clearFaces_22 : decode cX5_clearFaces 22 = .ok (.bastore, 1) := by decide +kernel
theorem dX5_clearFaces_23 : decode cX5_clearFaces 23 = .ok (.iinc 1 1, 3) := by decide +kernel
theorem dX5_clearFaces_26 : decode cX5_clearFaces 26 = .ok (.goto (-24), 3) := by decide +kernel
theorem dX5_clearFaces_29 : decode cX5_clearFaces 29 = .ok (.return_, 1) := by decide +kernel
theorem dX5_mark_0 : decode cX5_mark 0 = .ok (.iload_n 1, 1) := by decide +kernel
theorem dX5_mark_1 : decode cX5_mark 1 = .ok (.ifCond .lt 17, 3) := by decide +kernel
theorem dX5_mark_4 : decode cX5_mark 4 = .ok (.iload_n 1, 1) := by decide +kernel
theorem dX5_mark_5 : decode cX5_mark 5 = .ok (.sipush 1000, 3) := by decide +kernel
theorem dX5_mark_8 : decode cX5_mark 8 = .ok (.if_icmp .gt 10, 3) := by decide +kernel
theorem dX5_mark_11 : decode cX5_mark 11 = .ok (.aload_n 0, 1) := by decide +kernel
theorem dX5_mark_12 : decode cX5_mark 12 = .ok (.getfield 15, 3) := by decide +kernel
theorem dX5_mark_15 : decode cX5_mark 15 = .ok (.iload_n 1, 1) := by decide +kernel
theorem dX5_mark_16 : decode cX5_mark 16 = .ok (.iconst 1, 1) := by decide +kernel
theorem dX5_mark_17 : decode cX5_mark 17 = .ok (.bastore, 1) := by decide +kernel
theorem dX5_mark_18 : decode cX5_mark 18 = .ok (.return_, 1) := by decide +kernel
theorem dX5_banNear_0 : decode cX5_banNear 0 = .ok (.bipush (-100), 2) := by decide +kernel
theorem dX5_banNear_2 : decode cX5_banNear 2 = .ok (.istore_n 2, 1) := by decide +kernel
theorem dX5_banNear_3 : decode cX5_banNear 3 = .ok (.sipush 1100, 3) := by decide +kernel
theorem dX5_banNear_6 : decode cX5_banNear 6 = .ok (.istore_n 3, 1) := by decide +kernel
theorem dX5_banNear_7 : decode cX5_banNear 7 = .ok (.iconst 0, 1) := by decide +kernel
theorem dX5_banNear_8 : decode cX5_banNear 8 = .ok (.istore 4, 2) := by decide +kernel
theorem dX5_banNear_10 : decode cX5_banNear 10 = .ok (.iload 4, 2) := by decide +kernel
theorem dX5_banNear_12 : decode cX5_banNear 12 = .ok (.sipush 1000, 3) := by decide +kernel
theorem dX5_banNear_15 : decode cX5_banNear 15 = .ok (.if_icmp .gt 83, 3) := by decide +kernel
theorem dX5_banNear_18 : decode cX5_banNear 18 = .ok (.aload_n 0, 1) := by decide +kernel
theorem dX5_banNear_19 : decode cX5_banNear 19 = .ok (.getfield 15, 3) := by decide +kernel
theorem dX5_banNear_22 : decode cX5_banNear 22 = .ok (.iload 4, 2) := by decide +kernel
theorem dX5_banNear_24 : decode cX5_banNear 24 = .ok (.baload, 1) := by decide +kernel
theorem dX5_banNear_25 : decode cX5_banNear 25 = .ok (.ifCond .eq 8, 3) := by decide +kernel
theorem dX5_banNear_28 : decode cX5_banNear 28 = .ok (.iload 4, 2) := by decide +kernel
theorem dX5_banNear_30 : decode cX5_banNear 30 = .ok (.goto 4, 3) := by decide +kernel
theorem dX5_banNear_33 : decode cX5_banNear 33 = .ok (.iload_n 2, 1) := by decide +kernel
theorem dX5_banNear_34 : decode cX5_banNear 34 = .ok (.istore_n 2, 1) := by decide +kernel
theorem dX5_banNear_35 : decode cX5_banNear 35 = .ok (.iload 4, 2) := by decide +kernel
theorem dX5_banNear_37 : decode cX5_banNear 37 = .ok (.iload_n 2, 1) := by decide +kernel
theorem dX5_banNear_38 : decode cX5_banNear 38 = .ok (.isub, 1) := by decide +kernel
theorem dX5_banNear_39 : decode cX5_banNear 39 = .ok (.iload_n 1, 1) := by decide +kernel
theorem dX5_banNear_40 : decode cX5_banNear 40 = .ok (.if_icmp .ge 11, 3) := by decide +kernel
theorem dX5_banNear_43 : decode cX5_banNear 43 = .ok (.aload_n 0, 1) := by decide +kernel
theorem dX5_banNear_44 : decode cX5_banNear 44 = .ok (.getfield 19, 3) := by decide +kernel
theorem dX5_banNear_47 : decode cX5_banNear 47 = .ok (.iload 4, 2) := by decide +kernel
theorem dX5_banNear_49 : decode cX5_banNear 49 = .ok (.iconst 1, 1) := by decide +kernel
theorem dX5_banNear_50 : decode cX5_banNear 50 = .ok (.bastore, 1) := by decide +kernel
theorem dX5_banNear_51 : decode cX5_banNear 51 = .ok (.sipush 1000, 3) := by decide +kernel
theorem dX5_banNear_54 : decode cX5_banNear 54 = .ok (.iload 4, 2) := by decide +kernel
theorem dX5_banNear_56 : decode cX5_banNear 56 = .ok (.isub, 1) := by decide +kernel
theorem dX5_banNear_57 : decode cX5_banNear 57 = .ok (.istore 5, 2) := by decide +kernel
theorem dX5_banNear_59 : decode cX5_banNear 59 = .ok (.aload_n 0, 1) := by decide +kernel
theorem dX5_banNear_60 : decode cX5_banNear 60 = .ok (.getfield 15, 3) := by decide +kernel
theorem dX5_banNear_63 : decode cX5_banNear 63 = .ok (.iload 5, 2) := by decide +kernel
theorem dX5_banNear_65 : decode cX5_banNear 65 = .ok (.baload, 1) := by decide +kernel
theorem dX5_banNear_66 : decode cX5_banNear 66 = .ok (.ifCond .eq 8, 3) := by decide +kernel
theorem dX5_banNear_69 : decode cX5_banNear 69 = .ok (.iload 5, 2) := by decide +kernel
theorem dX5_banNear_71 : decode cX5_banNear 71 = .ok (.goto 4, 3) := by decide +kernel
theorem dX5_banNear_74 : decode cX5_banNear 74 = .ok (.iload_n 3, 1) := by decide +kernel
theorem dX5_banNear_75 : decode cX5_banNear 75 = .ok (.istore_n 3, 1) := by decide +kernel
theorem dX5_banNear_76 : decode cX5_banNear 76 = .ok (.iload_n 3, 1) := by decide +kernel
theorem dX5_banNear_77 : decode cX5_banNear 77 = .ok (.iload 5, 2) := by decide +kernel
theorem dX5_banNear_79 : decode cX5_banNear 79 = .ok (.isub, 1) := by decide +kernel
theorem dX5_banNear_80 : decode cX5_banNear 80 = .ok (.iload_n 1, 1) := by decide +kernel
theorem dX5_banNear_81 : decode cX5_banNear 81 = .ok (.if_icmp .ge 11, 3) := by decide +kernel
theorem dX5_banNear_84 : decode cX5_banNear 84 = .ok (.aload_n 0, 1) := by decide +kernel
theorem dX5_banNear_85 : decode cX5_banNear 85 = .ok (.getfield 19, 3) := by decide +kernel
theorem dX5_banNear_88 : decode cX5_banNear 88 = .ok (.iload 5, 2) := by decide +kernel
theorem dX5_banNear_90 : decode cX5_banNear 90 = .ok (.iconst 1, 1) := by decide +kernel
theorem dX5_banNear_91 : decode cX5_banNear 91 = .ok (.bastore, 1) := by decide +kernel
theorem dX5_banNear_92 : decode cX5_banNear 92 = .ok (.iinc 4 1, 3) := by decide +kernel
theorem dX5_banNear_95 : decode cX5_banNear 95 = .ok (.goto (-85), 3) := by decide +kernel
theorem dX5_banNear_98 : decode cX5_banNear 98 = .ok (.return_, 1) := by decide +kernel
theorem dX5_find_0 : decode cX5_find 0 = .ok (.aload_n 0, 1) := by decide +kernel
theorem dX5_find_1 : decode cX5_find 1 = .ok (.iload_n 1, 1) := by decide +kernel
theorem dX5_find_2 : decode cX5_find 2 = .ok (.invokevirtual 22, 3) := by decide +kernel
theorem dX5_find_5 : decode cX5_find 5 = .ok (.istore_n 2, 1) := by decide +kernel
theorem dX5_find_6 : decode cX5_find 6 = .ok (.iload_n 2, 1) := by decide +kernel
theorem dX5_find_7 : decode cX5_find 7 = .ok (.ifCond .ge 5, 3) := by decide +kernel
theorem dX5_find_10 : decode cX5_find 10 = .ok (.iconst 0, 1) := by decide +kernel
theorem dX5_find_11 : decode cX5_find 11 = .ok (.ireturn, 1) := by decide +kernel
theorem dX5_find_12 : decode cX5_find 12 = .ok (.iconst 0, 1) := by decide +kernel
theorem dX5_find_13 : decode cX5_find 13 = .ok (.istore_n 3, 1) := by decide +kernel
theorem dX5_find_14 : decode cX5_find 14 = .ok (.iconst 0, 1) := by decide +kernel
theorem dX5_find_15 : decode cX5_find 15 = .ok (.istore 4, 2) := by decide +kernel
theorem dX5_find_17 : decode cX5_find 17 = .ok (.iload 4, 2) := by decide +kernel
theorem dX5_find_19 : decode cX5_find 19 = .ok (.iload_n 2, 1) := by decide +kernel
theorem dX5_find_20 : decode cX5_find 20 = .ok (.if_icmp .ge 32, 3) := by decide +kernel
theorem dX5_find_23 : decode cX5_find 23 = .ok (.iload 4, 2) := by decide +kernel
theorem dX5_find_25 : decode cX5_find 25 = .ok (.sipush 1000, 3) := by decide +kernel
theorem dX5_find_28 : decode cX5_find 28 = .ok (.if_icmp .ge 24, 3) := by decide +kernel
theorem dX5_find_31 : decode cX5_find 31 = .ok (.aload_n 0, 1) := by decide +kernel
theorem dX5_find_32 : decode cX5_find 32 = .ok (.iload_n 3, 1) := by decide +kernel
theorem dX5_find_33 : decode cX5_find 33 = .ok (.iload_n 1, 1) := by decide +kernel
theorem dX5_find_34 : decode cX5_find 34 = .ok (.invokevirtual 26, 3) := by decide +kernel
theorem dX5_find_37 : decode cX5_find 37 = .ok (.istore_n 3, 1) := by decide +kernel
theorem dX5_find_38 : decode cX5_find 38 = .ok (.aload_n 0, 1) := by decide +kernel
theorem dX5_find_39 : decode cX5_find 39 = .ok (.getfield 11, 3) := by decide +kernel
theorem dX5_find_42 : decode cX5_find 42 = .ok (.iload 4, 2) := by decide +kernel
theorem dX5_find_44 : decode cX5_find 44 = .ok (.iload_n 3, 1) := by decide +kernel
theorem dX5_find_45 : decode cX5_find 45 = .ok (.iastore, 1) := by decide +kernel
theorem dX5_find_46 : decode cX5_find 46 = .ok (.iinc 4 1, 3) := by decide +kernel
theorem dX5_find_49 : decode cX5_find 49 = .ok (.goto (-32), 3) := by decide +kernel
theorem dX5_find_52 : decode cX5_find 52 = .ok (.aload_n 0, 1) := by decide +kernel
theorem dX5_find_53 : decode cX5_find 53 = .ok (.iload_n 2, 1) := by decide +kernel
theorem dX5_find_54 : decode cX5_find 54 = .ok (.putfield 30, 3) := by decide +kernel
theorem dX5_find_57 : decode cX5_find 57 = .ok (.iconst 1, 1) := by decide +kernel
theorem dX5_find_58 : decode cX5_find 58 = .ok (.ireturn, 1) := by decide +kernel
theorem dX5_stepsOf_0 : decode cX5_stepsOf 0 = .ok (.iconst 0, 1) := by decide +kernel
theorem dX5_stepsOf_1 : decode cX5_stepsOf 1 = .ok (.istore_n 2, 1) := by decide +kernel
theorem dX5_stepsOf_2 : decode cX5_stepsOf 2 = .ok (.iconst 0, 1) := by decide +kernel
theorem dX5_stepsOf_3 : decode cX5_stepsOf 3 = .ok (.istore_n 3, 1) := by decide +kernel
theorem dX5_stepsOf_4 : decode cX5_stepsOf 4 = .ok (.iload_n 3, 1) := by decide +kernel
theorem dX5_stepsOf_5 : decode cX5_stepsOf 5 = .ok (.sipush 1000, 3) := by decide +kernel
theorem dX5_stepsOf_8 : decode cX5_stepsOf 8 = .ok (.if_icmp .ge 37, 3) := by decide +kernel
theorem dX5_stepsOf_11 : decode cX5_stepsOf 11 = .ok (.iload_n 2, 1) := by decide +kernel
theorem dX5_stepsOf_12 : decode cX5_stepsOf 12 = .ok (.iload_n 1, 1) := by decide +kernel
theorem dX5_stepsOf_13 : decode cX5_stepsOf 13 = .ok (.iadd, 1) := by decide +kernel
theorem dX5_stepsOf_14 : decode cX5_stepsOf 14 = .ok (.sipush 1000, 3) := by decide +kernel
theorem dX5_stepsOf_17 : decode cX5_stepsOf 17 = .ok (.if_icmp .ge 28, 3) := by decide +kernel
theorem dX5_stepsOf_20 : decode cX5_stepsOf 20 = .ok (.aload_n 0, 1) := by decide +kernel
theorem dX5_stepsOf_21 : decode cX5_stepsOf 21 = .ok (.iload_n 2, 1) := by decide +kernel
theorem dX5_stepsOf_22 : decode cX5_stepsOf 22 = .ok (.iload_n 1, 1) := by decide +kernel
theorem dX5_stepsOf_23 : decode cX5_stepsOf 23 = .ok (.invokevirtual 26, 3) := by decide +kernel
theorem dX5_stepsOf_26 : decode cX5_stepsOf 26 = .ok (.istore 4, 2) := by decide +kernel
theorem dX5_stepsOf_28 : decode cX5_stepsOf 28 = .ok (.iload 4, 2) := by decide +kernel
theorem dX5_stepsOf_30 : decode cX5_stepsOf 30 = .ok (.iload_n 2, 1) := by decide +kernel
theorem dX5_stepsOf_31 : decode cX5_stepsOf 31 = .ok (.if_icmp .ne 5, 3) := by decide +kernel
theorem dX5_stepsOf_34 : decode cX5_stepsOf 34 = .ok (.iconst (-1), 1) := by decide +kernel
theorem dX5_stepsOf_35 : decode cX5_stepsOf 35 = .ok (.ireturn, 1) := by decide +kernel
theorem dX5_stepsOf_36 : decode cX5_stepsOf 36 = .ok (.iload 4, 2) := by decide +kernel
theorem dX5_stepsOf_38 : decode cX5_stepsOf 38 = .ok (.istore_n 2, 1) := by decide +kernel
theorem dX5_stepsOf_39 : decode cX5_stepsOf 39 = .ok (.iinc 3 1, 3) := by decide +kernel
theorem dX5_stepsOf_42 : decode cX5_stepsOf 42 = .ok (.goto (-38), 3) := by decide +kernel
theorem dX5_stepsOf_45 : decode cX5_stepsOf 45 = .ok (.iload_n 3, 1) := by decide +kernel
theorem dX5_stepsOf_46 : decode cX5_stepsOf 46 = .ok (.ireturn, 1) := by decide +kernel
theorem dX5_farthest_0 : decode cX5_farthest 0 = .ok (.sipush 1000, 3) := by decide +kernel
theorem dX5_farthest_3 : decode cX5_farthest 3 = .ok (.iload_n 1, 1) := by decide +kernel
theorem dX5_farthest_4 : decode cX5_farthest 4 = .ok (.iload_n 2, 1) := by decide +kernel
theorem dX5_farthest_5 : decode cX5_farthest 5 = .ok (.iadd, 1) := by decide +kernel
theorem dX5_farthest_6 : decode cX5_farthest 6 = .ok (.invokestatic 34, 3) := by decide +kernel
theorem dX5_farthest_9 : decode cX5_farthest 9 = .ok (.istore_n 3, 1) := by decide +kernel
theorem dX5_farthest_10 : decode cX5_farthest 10 = .ok (.iload_n 3, 1) := by decide +kernel
theorem dX5_farthest_11 : decode cX5_farthest 11 = .ok (.iload_n 1, 1) := by decide +kernel
theorem dX5_farthest_12 : decode cX5_farthest 12 = .ok (.if_icmp .le 20, 3) := by decide +kernel
theorem dX5_farthest_15 : decode cX5_farthest 15 = .ok (.aload_n 0, 1) := by decide +kernel
theorem dX5_farthest_16 : decode cX5_farthest 16 = .ok (.getfield 19, 3) := by decide +kernel
theorem dX5_farthest_19 : decode cX5_farthest 19 = .ok (.iload_n 3, 1) := by decide +kernel
theorem dX5_farthest_20 : decode cX5_farthest 20 = .ok (.baload, 1) := by decide +kernel
theorem dX5_farthest_21 : decode cX5_farthest 21 = .ok (.ifCond .ne 5, 3) := by decide +kernel
theorem dX5_farthest_24 : decode cX5_farthest 24 = .ok (.iload_n 3, 1) := by decide +kernel
theorem dX5_farthest_25 : decode cX5_farthest 25 = .ok (.ireturn, 1) := by decide +kernel
theorem dX5_farthest_26 : decode cX5_farthest 26 = .ok (.iinc 3 (-1), 3) := by decide +kernel
theorem dX5_farthest_29 : decode cX5_farthest 29 = .ok (.goto (-19), 3) := by decide +kernel
theorem dX5_farthest_32 : decode cX5_farthest 32 = .ok (.iload_n 1, 1) := by decide +kernel
theorem dX5_farthest_33 : decode cX5_farthest 33 = .ok (.ireturn, 1) := by decide +kernel
theorem dX6_init_0 : decode cX6_init 0 = .ok (.aload_n 0, 1) := by decide +kernel
theorem dX6_init_1 : decode cX6_init 1 = .ok (.invokespecial 3, 3) := by decide +kernel
theorem dX6_init_4 : decode cX6_init 4 = .ok (.aload_n 0, 1) := by decide +kernel
theorem dX6_init_5 : decode cX6_init 5 = .ok (.new 9, 3) := by decide +kernel
theorem dX6_init_8 : decode cX6_init 8 = .ok (.dup, 1) := by decide +kernel
theorem dX6_init_9 : decode cX6_init 9 = .ok (.invokespecial 11, 3) := by decide +kernel
theorem dX6_init_12 : decode cX6_init 12 = .ok (.putfield 12, 3) := by decide +kernel
theorem dX6_init_15 : decode cX6_init 15 = .ok (.aload_n 0, 1) := by decide +kernel
theorem dX6_init_16 : decode cX6_init 16 = .ok (.bipush 7, 2) := by decide +kernel
theorem dX6_init_18 : decode cX6_init 18 = .ok (.anewarray 18, 3) := by decide +kernel
theorem dX6_init_21 : decode cX6_init 21 = .ok (.putfield 20, 3) := by decide +kernel
theorem dX6_init_24 : decode cX6_init 24 = .ok (.aload_n 0, 1) := by decide +kernel
theorem dX6_init_25 : decode cX6_init 25 = .ok (.bipush 12, 2) := by decide +kernel
theorem dX6_init_27 : decode cX6_init 27 = .ok (.anewarray 18, 3) := by decide +kernel
theorem dX6_init_30 : decode cX6_init 30 = .ok (.putfield 24, 3) := by decide +kernel
theorem dX6_init_33 : decode cX6_init 33 = .ok (.aload_n 0, 1) := by decide +kernel
theorem dX6_init_34 : decode cX6_init 34 = .ok (.aload_n 1, 1) := by decide +kernel
theorem dX6_init_35 : decode cX6_init 35 = .ok (.putfield 27, 3) := by decide +kernel
theorem dX6_init_38 : decode cX6_init 38 = .ok (.iconst 0, 1) := by decide +kernel
theorem dX6_init_39 : decode cX6_init 39 = .ok (.istore_n 2, 1) := by decide +kernel
theorem dX6_init_40 : decode cX6_init 40 = .ok (.iload_n 2, 1) := by decide +kernel
theorem dX6_init_41 : decode cX6_init 41 = .ok (.bipush 6, 2) := by decide +kernel
theorem dX6_init_43 : decode cX6_init 43 = .ok (.if_icmp .gt 22, 3) := by decide +kernel
theorem dX6_init_46 : decode cX6_init 46 = .ok (.aload_n 0, 1) := by decide +kernel
theorem dX6_init_47 : decode cX6_init 47 = .ok (.getfield 20, 3) := by decide +kernel
theorem dX6_init_50 : decode cX6_init 50 = .ok (.iload_n 2, 1) := by decide +kernel
theorem dX6_init_51 : decode cX6_init 51 = .ok (.new 18, 3) := by decide +kernel
theorem dX6_init_54 : decode cX6_init 54 = .ok (.dup, 1) := by decide +kernel
theorem dX6_init_55 : decode cX6_init 55 = .ok (.invokespecial 31, 3) := by decide +kernel
theorem dX6_init_58 : decode cX6_init 58 = .ok (.aastore, 1) := by decide +kernel
theorem dX6_init_59 : decode cX6_init 59 = .ok (.iinc 2 1, 3) := by decide +kernel
theorem dX6_init_62 : decode cX6_init 62 = .ok (.goto (-22), 3) := by decide +kernel
theorem dX6_init_65 : decode cX6_init 65 = .ok (.iconst 0, 1) := by decide +kernel
theorem dX6_init_66 : decode cX6_init 66 = .ok (.istore_n 2, 1) := by decide +kernel
theorem dX6_init_67 : decode cX6_init 67 = .ok (.iload_n 2, 1) := by decide +kernel
theorem dX6_init_68 : decode cX6_init 68 = .ok (.bipush 12, 2) := by decide +kernel
theorem dX6_init_70 : decode cX6_init 70 = .ok (.if_icmp .ge 22, 3) := by decide +kernel
theorem dX6_init_73 : decode cX6_init 73 = .ok (.aload_n 0, 1) := by decide +kernel
theorem dX6_init_74 : decode cX6_init 74 = .ok (.getfield 24, 3) := by decide +kernel
theorem dX6_init_77 : decode cX6_init 77 = .ok (.iload_n 2, 1) := by decide +kernel
theorem dX6_init_78 : decode cX6_init 78 = .ok (.new 18, 3) := by decide +kernel
theorem dX6_init_81 : decode cX6_init 81 = .ok (.dup, 1) := by decide +kernel
theorem dX6_init_82 : decode cX6_init 82 = .ok (.invokespecial 31, 3) := by decide +kernel
theorem dX6_init_85 : decode cX6_init 85 = .ok (.aastore, 1) := by decide +kernel
theorem dX6_init_86 : decode cX6_init 86 = .ok (.iinc 2 1, 3) := by decide +kernel
theorem dX6_init_89 : decode cX6_init 89 = .ok (.goto (-22), 3) := by decide +kernel
theorem dX6_init_92 : decode cX6_init 92 = .ok (.return_, 1) := by decide +kernel
theorem dX6_parse_0 : decode cX6_parse 0 = .ok (.aload_n 0, 1) := by decide +kernel
theorem dX6_parse_1 : decode cX6_parse 1 = .ok (.getfield 27, 3) := by decide +kernel
theorem dX6_parse_4 : decode cX6_parse 4 = .ok (.invokevirtual 32, 3) := by decide +kernel
theorem dX6_parse_7 : decode cX6_parse 7 = .ok (.aload_n 0, 1) := by decide +kernel
theorem dX6_parse_8 : decode cX6_parse 8 = .ok (.getfield 12, 3) := by decide +kernel
theorem dX6_parse_11 : decode cX6_parse 11 = .ok (.iconst 0, 1) := by decide +kernel
theorem dX6_parse_12 : decode cX6_parse 12 = .ok (.putfield 37, 3) := by decide +kernel
theorem dX6_parse_15 : decode cX6_parse 15 = .ok (.aload_n 0, 1) := by decide +kernel
theorem dX6_parse_16 : decode cX6_parse 16 = .ok (.iconst 0, 1) := by decide +kernel
theorem dX6_parse_17 : decode cX6_parse 17 = .ok (.putfield 41, 3) := by decide +kernel
theorem dX6_parse_20 : decode cX6_parse 20 = .ok (.aload_n 0, 1) := by decide +kernel
theorem dX6_parse_21 : decode cX6_parse 21 = .ok (.iconst 0, 1) := by decide +kernel
theorem dX6_parse_22 : decode cX6_parse 22 = .ok (.putfield 44, 3) := by decide +kernel
theorem dX6_parse_25 : decode cX6_parse 25 = .ok (.aload_n 0, 1) := by decide +kernel
theorem dX6_parse_26 : decode cX6_parse 26 = .ok (.getfield 20, 3) := by decide +kernel
theorem dX6_parse_29 : decode cX6_parse 29 = .ok (.iconst 0, 1) := by decide +kernel
theorem dX6_parse_30 : decode cX6_parse 30 = .ok (.aaload, 1) := by decide +kernel
theorem dX6_parse_31 : decode cX6_parse 31 = .ok (.iconst 0, 1) := by decide +kernel
theorem dX6_parse_32 : decode cX6_parse 32 = .ok (.iconst 1, 1) := by decide +kernel
theorem dX6_parse_33 : decode cX6_parse 33 = .ok (.invokevirtual 47, 3) := by decide +kernel
theorem dX6_parse_36 : decode cX6_parse 36 = .ok (.iconst 0, 1) := by decide +kernel
theorem dX6_parse_37 : decode cX6_parse 37 = .ok (.istore_n 1, 1) := by decide +kernel
theorem dX6_parse_38 : decode cX6_parse 38 = .ok (.iload_n 1, 1) := by decide +kernel
theorem dX6_parse_39 : decode cX6_parse 39 = .ok (.sipush 600, 3) := by decide +kernel
theorem dX6_parse_42 : decode cX6_parse 42 = .ok (.if_icmp .gt 46, 3) := by decide +kernel
theorem dX6_parse_45 : decode cX6_parse 45 = .ok (.aload_n 0, 1) := by decide +kernel
theorem dX6_parse_46 : decode cX6_parse 46 = .ok (.invokevirtual 51, 3) := by decide +kernel
theorem dX6_parse_49 : decode cX6_parse 49 = .ok (.ifCond .eq 39, 3) := by decide +kernel
theorem dX6_parse_52 : decode cX6_parse 52 = .ok (.aload_n 0, 1) := by decide +kernel
theorem dX6_parse_53 : decode cX6_parse 53 = .ok (.getfield 41, 3) := by decide +kernel
theorem dX6_parse_56 : decode cX6_parse 56 = .ok (.ifCond .le 22, 3) := by decide +kernel
theorem dX6_parse_59 : decode cX6_parse 59 = .ok (.aload_n 0, 1) := by decide +kernel
theorem dX6_parse_60 : decode cX6_parse 60 = .ok (.getfield 27, 3) := by decide +kernel
theorem dX6_parse_63 : decode cX6_parse 63 = .ok (.bipush 93, 2) := by decide +kernel
theorem dX6_parse_65 : decode cX6_parse 65 = .ok (.invokevirtual 55, 3) := by decide +kernel
theorem dX6_parse_68 : decode cX6_parse 68 = .ok (.ifCond .eq 10, 3) := by decide +kernel
theorem dX6_parse_71 : decode cX6_parse 71 = .ok (.aload_n 0, 1) := by decide +kernel
theorem dX6_parse_72 : decode cX6_parse 72 = .ok (.invokevirtual 59, 3) := by decide +kernel
theorem dX6_parse_75 : decode cX6_parse 75 = .ok (.goto 7, 3) := by decide +kernel
theorem dX6_parse_78 : decode cX6_parse 78 = .ok (.aload_n 0, 1) := by decide +kernel
theorem dX6_parse_79 : decode cX6_parse 79 = .ok (.invokevirtual 62, 3) := by decide +kernel
theorem dX6_parse_82 : decode cX6_parse 82 = .ok (.iinc 1 1, 3) := by decide +kernel
theorem dX6_parse_85 : decode cX6_parse 85 = .ok (.goto (-47), 3) := by decide +kernel
theorem dX6_parse_88 : decode cX6_parse 88 = .ok (.aload_n 0, 1) := by decide +kernel
theorem dX6_parse_89 : decode cX6_parse 89 = .ok (.getfield 20, 3) := by decide +kernel
theorem dX6_parse_92 : decode cX6_parse 92 = .ok (.iconst 0, 1) := by decide +kernel
theorem dX6_parse_93 : decode cX6_parse 93 = .ok (.aaload, 1) := by decide +kernel
theorem dX6_parse_94 : decode cX6_parse 94 = .ok (.getfield 65, 3) := by decide +kernel
theorem dX6_parse_97 : decode cX6_parse 97 = .ok (.sipush 240, 3) := by decide +kernel
theorem dX6_parse_100 : decode cX6_parse 100 = .ok (.if_icmp .le 18, 3) := by decide +kernel
theorem dX6_parse_103 : decode cX6_parse 103 = .ok (.aload_n 0, 1) := by decide +kernel
theorem dX6_parse_104 : decode cX6_parse 104 = .ok (.getfield 27, 3) := by decide +kernel
theorem dX6_parse_107 : decode cX6_parse 107 = .ok (.iconst 5, 1) := by decide +kernel
theorem dX6_parse_108 : decode cX6_parse 108 = .ok (.aload_n 0, 1) := by decide +kernel
theorem dX6_parse_109 : decode cX6_parse 109 = .ok (.getfield 27, 3) := by decide +kernel
theorem dX6_parse_112 : decode cX6_parse 112 = .ok (.getfield 68, 3) := by decide +kernel
theorem dX6_parse_115 : decode cX6_parse 115 = .ok (.invokevirtual 71, 3) := by decide +kernel
theorem dX6_parse_118 : decode cX6_parse 118 = .ok (.return_, 1) := by decide +kernel
theorem dX6_hasMore_0 : decode cX6_hasMore 0 = .ok (.aload_n 0, 1) := by decide +kernel
theorem dX6_hasMore_1 : decode cX6_hasMore 1 = .ok (.getfield 27, 3) := by decide +kernel
theorem dX6_hasMore_4 : decode cX6_hasMore 4 = .ok (.getfield 74, 3) := by decide +kernel
theorem dX6_hasMore_7 : decode cX6_hasMore 7 = .ok (.ifCond .eq 5, 3) := by decide +kernel
theorem dX6_hasMore_10 : decode cX6_hasMore 10 = .ok (.iconst 0, 1) := by decide +kernel
theorem dX6_hasMore_11 : decode cX6_hasMore 11 = .ok (.ireturn, 1) := by decide +kernel
theorem dX6_hasMore_12 : decode cX6_hasMore 12 = .ok (.aload_n 0, 1) := by decide +kernel
theorem dX6_hasMore_13 : decode cX6_hasMore 13 = .ok (.getfield 27, 3) := by decide +kernel
theorem dX6_hasMore_16 : decode cX6_hasMore 16 = .ok (.invokevirtual 77, 3) := by decide +kernel
theorem dX6_hasMore_19 : decode cX6_hasMore 19 = .ok (.aload_n 0, 1) := by decide +kernel
theorem dX6_hasMore_20 : decode cX6_hasMore 20 = .ok (.getfield 27, 3) := by decide +kernel
theorem dX6_hasMore_23 : decode cX6_hasMore 23 = .ok (.invokevirtual 80, 3) := by decide +kernel
theorem dX6_hasMore_26 : decode cX6_hasMore 26 = .ok (.ifCond .ne 5, 3) := by decide +kernel
theorem dX6_hasMore_29 : decode cX6_hasMore 29 = .ok (.iconst 1, 1) := by decide +kernel
theorem dX6_hasMore_30 : decode cX6_hasMore 30 = .ok (.ireturn, 1) := by decide +kernel
theorem dX6_hasMore_31 : decode cX6_hasMore 31 = .ok (.aload_n 0, 1) := by decide +kernel
theorem dX6_hasMore_32 : decode cX6_hasMore 32 = .ok (.getfield 41, 3) := by decide +kernel
theorem dX6_hasMore_35 : decode cX6_hasMore 35 = .ok (.ifCond .le 18, 3) := by decide +kernel
theorem dX6_hasMore_38 : decode cX6_hasMore 38 = .ok (.aload_n 0, 1) := by decide +kernel
theorem dX6_hasMore_39 : decode cX6_hasMore 39 = .ok (.getfield 27, 3) := by decide +kernel
theorem dX6_hasMore_42 : decode cX6_hasMore 42 = .ok (.iconst 1, 1) := by decide +kernel
theorem dX6_hasMore_43 : decode cX6_hasMore 43 = .ok (.aload_n 0, 1) := by decide +kernel
theorem dX6_hasMore_44 : decode cX6_hasMore 44 = .ok (.getfield 27, 3) := by decide +kernel
theorem dX6_hasMore_47 : decode cX6_hasMore 47 = .ok (.getfield 68, 3) := by decide +kernel
theorem dX6_hasMore_50 : decode cX6_hasMore 50 = .ok (.invokevirtual 71, 3) := by decide +kernel
theorem dX6_hasMore_53 : decode cX6_hasMore 53 = .ok (.iconst 0, 1) := by decide +kernel
theorem dX6_hasMore_54 : decode cX6_hasMore 54 = .ok (.ireturn, 1) := by decide +kernel
theorem dX6_tell_0 : decode cX6_tell 0 = .ok (.aload_n 0, 1) := by decide +kernel
theorem dX6_tell_1 : decode cX6_tell 1 = .ok (.getfield 27, 3) := by decide +kernel
theorem dX6_tell_4 : decode cX6_tell 4 = .ok (.invokevirtual 83, 3) := by decide +kernel
theorem dX6_tell_7 : decode cX6_tell 7 = .ok (.aload_n 0, 1) := by decide +kernel
theorem dX6_tell_8 : decode cX6_tell 8 = .ok (.getfield 27, 3) := by decide +kernel
theorem dX6_tell_11 : decode cX6_tell 11 = .ok (.ldc 86, 2) := by decide +kernel
theorem dX6_tell_13 : decode cX6_tell 13 = .ok (.invokevirtual 88, 3) := by decide +kernel
theorem dX6_tell_16 : decode cX6_tell 16 = .ok (.ifCond .eq 22, 3) := by decide +kernel
theorem dX6_tell_19 : decode cX6_tell 19 = .ok (.aload_n 0, 1) := by decide +kernel
theorem dX6_tell_20 : decode cX6_tell 20 = .ok (.aload_n 0, 1) := by decide +kernel
theorem dX6_tell_21 : decode cX6_tell 21 = .ok (.getfield 27, 3) := by decide +kernel
theorem dX6_tell_24 : decode cX6_tell 24 = .ok (.iconst 0, 1) := by decide +kernel
theorem dX6_tell_25 : decode cX6_tell 25 = .ok (.sipush 1000, 3) := by decide +kernel
theorem dX6_tell_28 : decode cX6_tell 28 = .ok (.invokevirtual 92, 3) := by decide +kernel
theorem dX6_tell_31 : decode cX6_tell 31 = .ok (.iconst (-1), 1) := by decide +kernel
