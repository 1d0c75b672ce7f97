theorem d_Bk_doneMinutes_47 : decode b_Bk_doneMinutes 47 = .ok (.istore_n 2, 1) := by decide +kernel
theorem d_Bk_doneMinutes_48 : decode b_Bk_doneMinutes 48 = .ok (.iinc 3 1, 3) := by decide +kernel
theorem d_Bk_doneMinutes_51 : decode b_Bk_doneMinutes 51 = .ok (.goto (-47), 3) := by decide +kernel
theorem d_Bk_doneMinutes_54 : decode b_Bk_doneMinutes 54 = .ok (.iload_n 2, 1) := by decide +kernel
theorem d_Bk_doneMinutes_55 : decode b_Bk_doneMinutes 55 = .ok (.ireturn, 1) := by decide +kernel
theorem d_Bk_finish_0 : decode b_Bk_finish 0 = .ok (.iconst 1, 1) := by decide +kernel
theorem d_Bk_finish_1 : decode b_Bk_finish 1 = .ok (.istore_n 2, 1) := by decide +kernel
theorem d_Bk_finish_2 : decode b_Bk_finish 2 = .ok (.iload_n 2, 1) := by decide +kernel
theorem d_Bk_finish_3 : decode b_Bk_finish 3 = .ok (.aload_n 0, 1) := by decide +kernel
theorem d_Bk_finish_4 : decode b_Bk_finish 4 = .ok (.getfield 30, 3) := by decide +kernel
theorem d_Bk_finish_7 : decode b_Bk_finish 7 = .ok (.if_icmp .gt 36, 3) := by decide +kernel
theorem d_Bk_finish_10 : decode b_Bk_finish 10 = .ok (.aload_n 0, 1) := by decide +kernel
theorem d_Bk_finish_11 : decode b_Bk_finish 11 = .ok (.getfield 24, 3) := by decide +kernel
theorem d_Bk_finish_14 : decode b_Bk_finish 14 = .ok (.iload_n 2, 1) := by decide +kernel
theorem d_Bk_finish_15 : decode b_Bk_finish 15 = .ok (.iaload, 1) := by decide +kernel
theorem d_Bk_finish_16 : decode b_Bk_finish 16 = .ok (.iconst 1, 1) := by decide +kernel
theorem d_Bk_finish_17 : decode b_Bk_finish 17 = .ok (.if_icmp .ne 20, 3) := by decide +kernel
theorem d_Bk_finish_20 : decode b_Bk_finish 20 = .ok (.aload_n 0, 1) := by decide +kernel
theorem d_Bk_finish_21 : decode b_Bk_finish 21 = .ok (.getfield 21, 3) := by decide +kernel
theorem d_Bk_finish_24 : decode b_Bk_finish 24 = .ok (.iload_n 2, 1) := by decide +kernel
theorem d_Bk_finish_25 : decode b_Bk_finish 25 = .ok (.iaload, 1) := by decide +kernel
theorem d_Bk_finish_26 : decode b_Bk_finish 26 = .ok (.iload_n 1, 1) := by decide +kernel
theorem d_Bk_finish_27 : decode b_Bk_finish 27 = .ok (.if_icmp .gt 10, 3) := by decide +kernel
theorem d_Bk_finish_30 : decode b_Bk_finish 30 = .ok (.aload_n 0, 1) := by decide +kernel
theorem d_Bk_finish_31 : decode b_Bk_finish 31 = .ok (.getfield 24, 3) := by decide +kernel
theorem d_Bk_finish_34 : decode b_Bk_finish 34 = .ok (.iload_n 2, 1) := by decide +kernel
theorem d_Bk_finish_35 : decode b_Bk_finish 35 = .ok (.iconst 2, 1) := by decide +kernel
theorem d_Bk_finish_36 : decode b_Bk_finish 36 = .ok (.iastore, 1) := by decide +kernel
theorem d_Bk_finish_37 : decode b_Bk_finish 37 = .ok (.iinc 2 1, 3) := by decide +kernel
theorem d_Bk_finish_40 : decode b_Bk_finish 40 = .ok (.goto (-38), 3) := by decide +kernel
theorem d_Bk_finish_43 : decode b_Bk_finish 43 = .ok (.return_, 1) := by decide +kernel
theorem d_Bk_turnOne_0 : decode b_Bk_turnOne 0 = .ok (.aload_n 0, 1) := by decide +kernel
theorem d_Bk_turnOne_1 : decode b_Bk_turnOne 1 = .ok (.getfield 24, 3) := by decide +kernel
theorem d_Bk_turnOne_4 : decode b_Bk_turnOne 4 = .ok (.iload_n 1, 1) := by decide +kernel
theorem d_Bk_turnOne_5 : decode b_Bk_turnOne 5 = .ok (.iload_n 2, 1) := by decide +kernel
theorem d_Bk_turnOne_6 : decode b_Bk_turnOne 6 = .ok (.iastore, 1) := by decide +kernel
theorem d_Bk_turnOne_7 : decode b_Bk_turnOne 7 = .ok (.aload_n 0, 1) := by decide +kernel
theorem d_Bk_turnOne_8 : decode b_Bk_turnOne 8 = .ok (.getfield 37, 3) := by decide +kernel
theorem d_Bk_turnOne_11 : decode b_Bk_turnOne 11 = .ok (.aload_n 0, 1) := by decide +kernel
theorem d_Bk_turnOne_12 : decode b_Bk_turnOne 12 = .ok (.getfield 34, 3) := by decide +kernel
theorem d_Bk_turnOne_15 : decode b_Bk_turnOne 15 = .ok (.arraylength, 1) := by decide +kernel
theorem d_Bk_turnOne_16 : decode b_Bk_turnOne 16 = .ok (.if_icmp .ge 28, 3) := by decide +kernel
theorem d_Bk_turnOne_19 : decode b_Bk_turnOne 19 = .ok (.aload_n 0, 1) := by decide +kernel
theorem d_Bk_turnOne_20 : decode b_Bk_turnOne 20 = .ok (.getfield 34, 3) := by decide +kernel
theorem d_Bk_turnOne_23 : decode b_Bk_turnOne 23 = .ok (.aload_n 0, 1) := by decide +kernel
theorem d_Bk_turnOne_24 : decode b_Bk_turnOne 24 = .ok (.getfield 37, 3) := by decide +kernel
theorem d_Bk_turnOne_27 : decode b_Bk_turnOne 27 = .ok (.aload_n 0, 1) := by decide +kernel
theorem d_Bk_turnOne_28 : decode b_Bk_turnOne 28 = .ok (.getfield 15, 3) := by decide +kernel
theorem d_Bk_turnOne_31 : decode b_Bk_turnOne 31 = .ok (.iload_n 1, 1) := by decide +kernel
theorem d_Bk_turnOne_32 : decode b_Bk_turnOne 32 = .ok (.iaload, 1) := by decide +kernel
theorem d_Bk_turnOne_33 : decode b_Bk_turnOne 33 = .ok (.iastore, 1) := by decide +kernel
theorem d_Bk_turnOne_34 : decode b_Bk_turnOne 34 = .ok (.aload_n 0, 1) := by decide +kernel
theorem d_Bk_turnOne_35 : decode b_Bk_turnOne 35 = .ok (.dup, 1) := by decide +kernel
theorem d_Bk_turnOne_36 : decode b_Bk_turnOne 36 = .ok (.getfield 37, 3) := by decide +kernel
theorem d_Bk_turnOne_39 : decode b_Bk_turnOne 39 = .ok (.iconst 1, 1) := by decide +kernel
theorem d_Bk_turnOne_40 : decode b_Bk_turnOne 40 = .ok (.iadd, 1) := by decide +kernel
theorem d_Bk_turnOne_41 : decode b_Bk_turnOne 41 = .ok (.putfield 37, 3) := by decide +kernel
theorem d_Bk_turnOne_44 : decode b_Bk_turnOne 44 = .ok (.return_, 1) := by decide +kernel
theorem d_Bk_turn_0 : decode b_Bk_turn 0 = .ok (.aload_n 0, 1) := by decide +kernel
theorem d_Bk_turn_1 : decode b_Bk_turn 1 = .ok (.iconst 0, 1) := by decide +kernel
theorem d_Bk_turn_2 : decode b_Bk_turn 2 = .ok (.putfield 37, 3) := by decide +kernel
theorem d_Bk_turn_5 : decode b_Bk_turn 5 = .ok (.aload_n 0, 1) := by decide +kernel
theorem d_Bk_turn_6 : decode b_Bk_turn 6 = .ok (.iload_n 1, 1) := by decide +kernel
theorem d_Bk_turn_7 : decode b_Bk_turn 7 = .ok (.iload_n 2, 1) := by decide +kernel
theorem d_Bk_turn_8 : decode b_Bk_turn 8 = .ok (.invokevirtual 55, 3) := by decide +kernel
theorem d_Bk_turn_11 : decode b_Bk_turn 11 = .ok (.iconst 1, 1) := by decide +kernel
theorem d_Bk_turn_12 : decode b_Bk_turn 12 = .ok (.istore_n 3, 1) := by decide +kernel
theorem d_Bk_turn_13 : decode b_Bk_turn 13 = .ok (.iload_n 3, 1) := by decide +kernel
theorem d_Bk_turn_14 : decode b_Bk_turn 14 = .ok (.aload_n 0, 1) := by decide +kernel
theorem d_Bk_turn_15 : decode b_Bk_turn 15 = .ok (.getfield 30, 3) := by decide +kernel
theorem d_Bk_turn_18 : decode b_Bk_turn 18 = .ok (.if_icmp .gt 34, 3) := by decide +kernel
theorem d_Bk_turn_21 : decode b_Bk_turn 21 = .ok (.aload_n 0, 1) := by decide +kernel
theorem d_Bk_turn_22 : decode b_Bk_turn 22 = .ok (.getfield 27, 3) := by decide +kernel
theorem d_Bk_turn_25 : decode b_Bk_turn 25 = .ok (.iload_n 3, 1) := by decide +kernel
theorem d_Bk_turn_26 : decode b_Bk_turn 26 = .ok (.iaload, 1) := by decide +kernel
theorem d_Bk_turn_27 : decode b_Bk_turn 27 = .ok (.iload_n 1, 1) := by decide +kernel
theorem d_Bk_turn_28 : decode b_Bk_turn 28 = .ok (.if_icmp .ne 18, 3) := by decide +kernel
theorem d_Bk_turn_31 : decode b_Bk_turn 31 = .ok (.aload_n 0, 1) := by decide +kernel
theorem d_Bk_turn_32 : decode b_Bk_turn 32 = .ok (.getfield 24, 3) := by decide +kernel
theorem d_Bk_turn_35 : decode b_Bk_turn 35 = .ok (.iload_n 3, 1) := by decide +kernel
theorem d_Bk_turn_36 : decode b_Bk_turn 36 = .ok (.iaload, 1) := by decide +kernel
theorem d_Bk_turn_37 : decode b_Bk_turn 37 = .ok (.ifCond .ne 9, 3) := by decide +kernel
theorem d_Bk_turn_40 : decode b_Bk_turn 40 = .ok (.aload_n 0, 1) := by decide +kernel
theorem d_Bk_turn_41 : decode b_Bk_turn 41 = .ok (.iload_n 3, 1) := by decide +kernel
theorem d_Bk_turn_42 : decode b_Bk_turn 42 = .ok (.iload_n 2, 1) := by decide +kernel
theorem d_Bk_turn_43 : decode b_Bk_turn 43 = .ok (.invokevirtual 55, 3) := by decide +kernel
theorem d_Bk_turn_46 : decode b_Bk_turn 46 = .ok (.iinc 3 1, 3) := by decide +kernel
theorem d_Bk_turn_49 : decode b_Bk_turn 49 = .ok (.goto (-36), 3) := by decide +kernel
theorem d_Bk_turn_52 : decode b_Bk_turn 52 = .ok (.return_, 1) := by decide +kernel
theorem d_Bk_turnedSize_0 : decode b_Bk_turnedSize 0 = .ok (.aload_n 0, 1) := by decide +kernel
theorem d_Bk_turnedSize_1 : decode b_Bk_turnedSize 1 = .ok (.getfield 37, 3) := by decide +kernel
theorem d_Bk_turnedSize_4 : decode b_Bk_turnedSize 4 = .ok (.ireturn, 1) := by decide +kernel
theorem d_Bk_turnedThing_0 : decode b_Bk_turnedThing 0 = .ok (.aload_n 0, 1) := by decide +kernel
theorem d_Bk_turnedThing_1 : decode b_Bk_turnedThing 1 = .ok (.getfield 34, 3) := by decide +kernel
theorem d_Bk_turnedThing_4 : decode b_Bk_turnedThing 4 = .ok (.iload_n 1, 1) := by decide +kernel
theorem d_Bk_turnedThing_5 : decode b_Bk_turnedThing 5 = .ok (.iaload, 1) := by decide +kernel
theorem d_Bk_turnedThing_6 : decode b_Bk_turnedThing 6 = .ok (.ireturn, 1) := by decide +kernel
