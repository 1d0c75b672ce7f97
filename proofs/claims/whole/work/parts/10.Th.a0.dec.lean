theorem d_Th_init_0 : decode b_Th_init 0 = .ok (.aload_n 0, 1) := by decide +kernel
theorem d_Th_init_1 : decode b_Th_init 1 = .ok (.invokespecial 3, 3) := by decide +kernel
theorem d_Th_init_4 : decode b_Th_init 4 = .ok (.aload_n 0, 1) := by decide +kernel
theorem d_Th_init_5 : decode b_Th_init 5 = .ok (.bipush 30, 2) := by decide +kernel
theorem d_Th_init_7 : decode b_Th_init 7 = .ok (.newarray .int, 2) := by decide +kernel
theorem d_Th_init_9 : decode b_Th_init 9 = .ok (.putfield 9, 3) := by decide +kernel
theorem d_Th_init_12 : decode b_Th_init 12 = .ok (.aload_n 0, 1) := by decide +kernel
theorem d_Th_init_13 : decode b_Th_init 13 = .ok (.bipush 30, 2) := by decide +kernel
theorem d_Th_init_15 : decode b_Th_init 15 = .ok (.newarray .int, 2) := by decide +kernel
theorem d_Th_init_17 : decode b_Th_init 17 = .ok (.putfield 15, 3) := by decide +kernel
theorem d_Th_init_20 : decode b_Th_init 20 = .ok (.aload_n 0, 1) := by decide +kernel
theorem d_Th_init_21 : decode b_Th_init 21 = .ok (.bipush 30, 2) := by decide +kernel
theorem d_Th_init_23 : decode b_Th_init 23 = .ok (.newarray .int, 2) := by decide +kernel
theorem d_Th_init_25 : decode b_Th_init 25 = .ok (.putfield 18, 3) := by decide +kernel
theorem d_Th_init_28 : decode b_Th_init 28 = .ok (.aload_n 0, 1) := by decide +kernel
theorem d_Th_init_29 : decode b_Th_init 29 = .ok (.bipush 30, 2) := by decide +kernel
theorem d_Th_init_31 : decode b_Th_init 31 = .ok (.newarray .int, 2) := by decide +kernel
theorem d_Th_init_33 : decode b_Th_init 33 = .ok (.putfield 21, 3) := by decide +kernel
theorem d_Th_init_36 : decode b_Th_init 36 = .ok (.aload_n 0, 1) := by decide +kernel
theorem d_Th_init_37 : decode b_Th_init 37 = .ok (.bipush 30, 2) := by decide +kernel
theorem d_Th_init_39 : decode b_Th_init 39 = .ok (.newarray .int, 2) := by decide +kernel
theorem d_Th_init_41 : decode b_Th_init 41 = .ok (.putfield 24, 3) := by decide +kernel
theorem d_Th_init_44 : decode b_Th_init 44 = .ok (.aload_n 0, 1) := by decide +kernel
theorem d_Th_init_45 : decode b_Th_init 45 = .ok (.iconst 0, 1) := by decide +kernel
theorem d_Th_init_46 : decode b_Th_init 46 = .ok (.putfield 27, 3) := by decide +kernel
theorem d_Th_init_49 : decode b_Th_init 49 = .ok (.return_, 1) := by decide +kernel
theorem d_Th_has_0 : decode b_Th_has 0 = .ok (.iload_n 1, 1) := by decide +kernel
theorem d_Th_has_1 : decode b_Th_has 1 = .ok (.ifCond .lt 15, 3) := by decide +kernel
theorem d_Th_has_4 : decode b_Th_has 4 = .ok (.iload_n 1, 1) := by decide +kernel
theorem d_Th_has_5 : decode b_Th_has 5 = .ok (.aload_n 0, 1) := by decide +kernel
theorem d_Th_has_6 : decode b_Th_has 6 = .ok (.getfield 27, 3) := by decide +kernel
theorem d_Th_has_9 : decode b_Th_has 9 = .ok (.if_icmp .ge 7, 3) := by decide +kernel
theorem d_Th_has_12 : decode b_Th_has 12 = .ok (.iconst 1, 1) := by decide +kernel
theorem d_Th_has_13 : decode b_Th_has 13 = .ok (.goto 4, 3) := by decide +kernel
theorem d_Th_has_16 : decode b_Th_has 16 = .ok (.iconst 0, 1) := by decide +kernel
theorem d_Th_has_17 : decode b_Th_has 17 = .ok (.ireturn, 1) := by decide +kernel
theorem d_Th_isFull_0 : decode b_Th_isFull 0 = .ok (.aload_n 0, 1) := by decide +kernel
theorem d_Th_isFull_1 : decode b_Th_isFull 1 = .ok (.getfield 27, 3) := by decide +kernel
theorem d_Th_isFull_4 : decode b_Th_isFull 4 = .ok (.bipush 30, 2) := by decide +kernel
theorem d_Th_isFull_6 : decode b_Th_isFull 6 = .ok (.if_icmp .lt 7, 3) := by decide +kernel
theorem d_Th_isFull_9 : decode b_Th_isFull 9 = .ok (.iconst 1, 1) := by decide +kernel
theorem d_Th_isFull_10 : decode b_Th_isFull 10 = .ok (.goto 4, 3) := by decide +kernel
theorem d_Th_isFull_13 : decode b_Th_isFull 13 = .ok (.iconst 0, 1) := by decide +kernel
theorem d_Th_isFull_14 : decode b_Th_isFull 14 = .ok (.ireturn, 1) := by decide +kernel
theorem d_Th_add_0 : decode b_Th_add 0 = .ok (.aload_n 0, 1) := by decide +kernel
theorem d_Th_add_1 : decode b_Th_add 1 = .ok (.getfield 27, 3) := by decide +kernel
theorem d_Th_add_4 : decode b_Th_add 4 = .ok (.istore 6, 2) := by decide +kernel
theorem d_Th_add_6 : decode b_Th_add 6 = .ok (.aload_n 0, 1) := by decide +kernel
theorem d_Th_add_7 : decode b_Th_add 7 = .ok (.getfield 9, 3) := by decide +kernel
theorem d_Th_add_10 : decode b_Th_add 10 = .ok (.iload 6, 2) := by decide +kernel
theorem d_Th_add_12 : decode b_Th_add 12 = .ok (.iload_n 1, 1) := by decide +kernel
theorem d_Th_add_13 : decode b_Th_add 13 = .ok (.iastore, 1) := by decide +kernel
theorem d_Th_add_14 : decode b_Th_add 14 = .ok (.aload_n 0, 1) := by decide +kernel
theorem d_Th_add_15 : decode b_Th_add 15 = .ok (.getfield 15, 3) := by decide +kernel
theorem d_Th_add_18 : decode b_Th_add 18 = .ok (.iload 6, 2) := by decide +kernel
theorem d_Th_add_20 : decode b_Th_add 20 = .ok (.iload_n 2, 1) := by decide +kernel
theorem d_Th_add_21 : decode b_Th_add 21 = .ok (.iastore, 1) := by decide +kernel
theorem d_Th_add_22 : decode b_Th_add 22 = .ok (.aload_n 0, 1) := by decide +kernel
theorem d_Th_add_23 : decode b_Th_add 23 = .ok (.getfield 18, 3) := by decide +kernel
theorem d_Th_add_26 : decode b_Th_add 26 = .ok (.iload 6, 2) := by decide +kernel
theorem d_Th_add_28 : decode b_Th_add 28 = .ok (.iload_n 3, 1) := by decide +kernel
theorem d_Th_add_29 : decode b_Th_add 29 = .ok (.iastore, 1) := by decide +kernel
theorem d_Th_add_30 : decode b_Th_add 30 = .ok (.aload_n 0, 1) := by decide +kernel
theorem d_Th_add_31 : decode b_Th_add 31 = .ok (.getfield 21, 3) := by decide +kernel
theorem d_Th_add_34 : decode b_Th_add 34 = .ok (.iload 6, 2) := by decide +kernel
theorem d_Th_add_36 : decode b_Th_add 36 = .ok (.iload 4, 2) := by decide +kernel
theorem d_Th_add_38 : decode b_Th_add 38 = .ok (.iastore, 1) := by decide +kernel
theorem d_Th_add_39 : decode b_Th_add 39 = .ok (.aload_n 0, 1) := by decide +kernel
theorem d_Th_add_40 : decode b_Th_add 40 = .ok (.getfield 24, 3) := by decide +kernel
theorem d_Th_add_43 : decode b_Th_add 43 = .ok (.iload 6, 2) := by decide +kernel
theorem d_Th_add_45 : decode b_Th_add 45 = .ok (.iload 5, 2) := by decide +kernel
theorem d_Th_add_47 : decode b_Th_add 47 = .ok (.iastore, 1) := by decide +kernel
theorem d_Th_add_48 : decode b_Th_add 48 = .ok (.aload_n 0, 1) := by decide +kernel
theorem d_Th_add_49 : decode b_Th_add 49 = .ok (.dup, 1) := by decide +kernel
theorem d_Th_add_50 : decode b_Th_add 50 = .ok (.getfield 27, 3) := by decide +kernel
theorem d_Th_add_53 : decode b_Th_add 53 = .ok (.iconst 1, 1) := by decide +kernel
theorem d_Th_add_54 : decode b_Th_add 54 = .ok (.iadd, 1) := by decide +kernel
theorem d_Th_add_55 : decode b_Th_add 55 = .ok (.putfield 27, 3) := by decide +kernel
theorem d_Th_add_58 : decode b_Th_add 58 = .ok (.iload 6, 2) := by decide +kernel
theorem d_Th_add_60 : decode b_Th_add 60 = .ok (.ireturn, 1) := by decide +kernel
theorem d_Th_placeOf_0 : decode b_Th_placeOf 0 = .ok (.aload_n 0, 1) := by decide +kernel
theorem d_Th_placeOf_1 : decode b_Th_placeOf 1 = .ok (.getfield 9, 3) := by decide +kernel
theorem d_Th_placeOf_4 : decode b_Th_placeOf 4 = .ok (.iload_n 1, 1) := by decide +kernel
theorem d_Th_placeOf_5 : decode b_Th_placeOf 5 = .ok (.iaload, 1) := by decide +kernel
theorem d_Th_placeOf_6 : decode b_Th_placeOf 6 = .ok (.ireturn, 1) := by decide +kernel
theorem d_Th_allowsLength_0 : decode b_Th_allowsLength 0 = .ok (.aload_n 0, 1) := by decide +kernel
theorem d_Th_allowsLength_1 : decode b_Th_allowsLength 1 = .ok (.getfield 15, 3) := by decide +kernel
theorem d_Th_allowsLength_4 : decode b_Th_allowsLength 4 = .ok (.iload_n 1, 1) := by decide +kernel
theorem d_Th_allowsLength_5 : decode b_Th_allowsLength 5 = .ok (.iaload, 1) := by decide +kernel
theorem d_Th_allowsLength_6 : decode b_Th_allowsLength 6 = .ok (.iload_n 2, 1) := by decide +kernel
theorem d_Th_allowsLength_7 : decode b_Th_allowsLength 7 = .ok (.if_icmp .gt 17, 3) := by decide +kernel
theorem d_Th_allowsLength_10 : decode b_Th_allowsLength 10 = .ok (.iload_n 2, 1) := by decide +kernel
theorem d_Th_allowsLength_11 : decode b_Th_allowsLength 11 = .ok (.aload_n 0, 1) := by decide +kernel
theorem d_Th_allowsLength_12 : decode b_Th_allowsLength 12 = .ok (.getfield 18, 3) := by decide +kernel
theorem d_Th_allowsLength_15 : decode b_Th_allowsLength 15 = .ok (.iload_n 1, 1) := by decide +kernel
theorem d_Th_allowsLength_16 : decode b_Th_allowsLength 16 = .ok (.iaload, 1) := by decide +kernel
theorem d_Th_allowsLength_17 : decode b_Th_allowsLength 17 = .ok (.if_icmp .gt 7, 3) := by decide +kernel
theorem d_Th_allowsLength_20 : decode b_Th_allowsLength 20 = .ok (.iconst 1, 1) := by decide +kernel
theorem d_Th_allowsLength_21 : decode b_Th_allowsLength 21 = .ok (.goto 4, 3) := by decide +kernel
theorem d_Th_allowsLength_24 : decode b_Th_allowsLength 24 = .ok (.iconst 0, 1) := by decide +kernel
theorem d_Th_allowsLength_25 : decode b_Th_allowsLength 25 = .ok (.ireturn, 1) := by decide +kernel
theorem d_Th_aheadOf_0 : decode b_Th_aheadOf 0 = .ok (.aload_n 0, 1) := by decide +kernel
theorem d_Th_aheadOf_1 : decode b_Th_aheadOf 1 = .ok (.getfield 21, 3) := by decide +kernel
theorem d_Th_aheadOf_4 : decode b_Th_aheadOf 4 = .ok (.iload_n 1, 1) := by decide +kernel
theorem d_Th_aheadOf_5 : decode b_Th_aheadOf 5 = .ok (.iaload, 1) := by decide +kernel
theorem d_Th_aheadOf_6 : decode b_Th_aheadOf 6 = .ok (.ireturn, 1) := by decide +kernel
theorem d_Th_graceOf_0 : decode b_Th_graceOf 0 = .ok (.aload_n 0, 1) := by decide +kernel
theorem d_Th_graceOf_1 : decode b_Th_graceOf 1 = .ok (.getfield 24, 3) := by decide +kernel
theorem d_Th_graceOf_4 : decode b_Th_graceOf 4 = .ok (.iload_n 1, 1) := by decide +kernel
theorem d_Th_graceOf_5 : decode b_Th_graceOf 5 = .ok (.iaload, 1) := by decide +kernel
theorem d_Th_graceOf_6 : decode b_Th_graceOf 6 = .ok (.ireturn, 1) := by decide +kernel
