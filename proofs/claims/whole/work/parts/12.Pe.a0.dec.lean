theorem d_Pe_init_0 : decode b_Pe_init 0 = .ok (.aload_n 0, 1) := by decide +kernel
theorem d_Pe_init_1 : decode b_Pe_init 1 = .ok (.invokespecial 3, 3) := by decide +kernel
theorem d_Pe_init_4 : decode b_Pe_init 4 = .ok (.aload_n 0, 1) := by decide +kernel
theorem d_Pe_init_5 : decode b_Pe_init 5 = .ok (.bipush 40, 2) := by decide +kernel
theorem d_Pe_init_7 : decode b_Pe_init 7 = .ok (.newarray .int, 2) := by decide +kernel
theorem d_Pe_init_9 : decode b_Pe_init 9 = .ok (.putfield 9, 3) := by decide +kernel
theorem d_Pe_init_12 : decode b_Pe_init 12 = .ok (.aload_n 0, 1) := by decide +kernel
theorem d_Pe_init_13 : decode b_Pe_init 13 = .ok (.bipush 40, 2) := by decide +kernel
theorem d_Pe_init_15 : decode b_Pe_init 15 = .ok (.newarray .int, 2) := by decide +kernel
theorem d_Pe_init_17 : decode b_Pe_init 17 = .ok (.putfield 15, 3) := by decide +kernel
theorem d_Pe_init_20 : decode b_Pe_init 20 = .ok (.return_, 1) := by decide +kernel
theorem d_Pe_noShowsOf_0 : decode b_Pe_noShowsOf 0 = .ok (.aload_n 0, 1) := by decide +kernel
theorem d_Pe_noShowsOf_1 : decode b_Pe_noShowsOf 1 = .ok (.getfield 9, 3) := by decide +kernel
theorem d_Pe_noShowsOf_4 : decode b_Pe_noShowsOf 4 = .ok (.iload_n 1, 1) := by decide +kernel
theorem d_Pe_noShowsOf_5 : decode b_Pe_noShowsOf 5 = .ok (.iaload, 1) := by decide +kernel
theorem d_Pe_noShowsOf_6 : decode b_Pe_noShowsOf 6 = .ok (.ireturn, 1) := by decide +kernel
theorem d_Pe_isBarred_0 : decode b_Pe_isBarred 0 = .ok (.iload_n 2, 1) := by decide +kernel
theorem d_Pe_isBarred_1 : decode b_Pe_isBarred 1 = .ok (.aload_n 0, 1) := by decide +kernel
theorem d_Pe_isBarred_2 : decode b_Pe_isBarred 2 = .ok (.getfield 15, 3) := by decide +kernel
theorem d_Pe_isBarred_5 : decode b_Pe_isBarred 5 = .ok (.iload_n 1, 1) := by decide +kernel
theorem d_Pe_isBarred_6 : decode b_Pe_isBarred 6 = .ok (.iaload, 1) := by decide +kernel
theorem d_Pe_isBarred_7 : decode b_Pe_isBarred 7 = .ok (.if_icmp .ge 7, 3) := by decide +kernel
theorem d_Pe_isBarred_10 : decode b_Pe_isBarred 10 = .ok (.iconst 1, 1) := by decide +kernel
theorem d_Pe_isBarred_11 : decode b_Pe_isBarred 11 = .ok (.goto 4, 3) := by decide +kernel
theorem d_Pe_isBarred_14 : decode b_Pe_isBarred 14 = .ok (.iconst 0, 1) := by decide +kernel
theorem d_Pe_isBarred_15 : decode b_Pe_isBarred 15 = .ok (.ireturn, 1) := by decide +kernel
theorem d_Pe_countNoShow_0 : decode b_Pe_countNoShow 0 = .ok (.aload_n 0, 1) := by decide +kernel
theorem d_Pe_countNoShow_1 : decode b_Pe_countNoShow 1 = .ok (.getfield 9, 3) := by decide +kernel
theorem d_Pe_countNoShow_4 : decode b_Pe_countNoShow 4 = .ok (.iload_n 1, 1) := by decide +kernel
theorem d_Pe_countNoShow_5 : decode b_Pe_countNoShow 5 = .ok (.dup2, 1) := by decide +kernel
theorem d_Pe_countNoShow_6 : decode b_Pe_countNoShow 6 = .ok (.iaload, 1) := by decide +kernel
theorem d_Pe_countNoShow_7 : decode b_Pe_countNoShow 7 = .ok (.iconst 1, 1) := by decide +kernel
theorem d_Pe_countNoShow_8 : decode b_Pe_countNoShow 8 = .ok (.iadd, 1) := by decide +kernel
theorem d_Pe_countNoShow_9 : decode b_Pe_countNoShow 9 = .ok (.iastore, 1) := by decide +kernel
theorem d_Pe_countNoShow_10 : decode b_Pe_countNoShow 10 = .ok (.aload_n 0, 1) := by decide +kernel
theorem d_Pe_countNoShow_11 : decode b_Pe_countNoShow 11 = .ok (.getfield 9, 3) := by decide +kernel
theorem d_Pe_countNoShow_14 : decode b_Pe_countNoShow 14 = .ok (.iload_n 1, 1) := by decide +kernel
theorem d_Pe_countNoShow_15 : decode b_Pe_countNoShow 15 = .ok (.iaload, 1) := by decide +kernel
theorem d_Pe_countNoShow_16 : decode b_Pe_countNoShow 16 = .ok (.iconst 3, 1) := by decide +kernel
theorem d_Pe_countNoShow_17 : decode b_Pe_countNoShow 17 = .ok (.irem, 1) := by decide +kernel
theorem d_Pe_countNoShow_18 : decode b_Pe_countNoShow 18 = .ok (.ifCond .ne 14, 3) := by decide +kernel
theorem d_Pe_countNoShow_21 : decode b_Pe_countNoShow 21 = .ok (.aload_n 0, 1) := by decide +kernel
theorem d_Pe_countNoShow_22 : decode b_Pe_countNoShow 22 = .ok (.getfield 15, 3) := by decide +kernel
theorem d_Pe_countNoShow_25 : decode b_Pe_countNoShow 25 = .ok (.iload_n 1, 1) := by decide +kernel
theorem d_Pe_countNoShow_26 : decode b_Pe_countNoShow 26 = .ok (.iload_n 2, 1) := by decide +kernel
theorem d_Pe_countNoShow_27 : decode b_Pe_countNoShow 27 = .ok (.sipush 10080, 3) := by decide +kernel
theorem d_Pe_countNoShow_30 : decode b_Pe_countNoShow 30 = .ok (.iadd, 1) := by decide +kernel
theorem d_Pe_countNoShow_31 : decode b_Pe_countNoShow 31 = .ok (.iastore, 1) := by decide +kernel
theorem d_Pe_countNoShow_32 : decode b_Pe_countNoShow 32 = .ok (.return_, 1) := by decide +kernel
