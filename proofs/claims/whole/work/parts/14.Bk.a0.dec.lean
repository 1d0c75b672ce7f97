theorem d_Bk_init_0 : decode b_Bk_init 0 = .ok (.aload_n 0, 1) := by decide +kernel
theorem d_Bk_init_1 : decode b_Bk_init 1 = .ok (.invokespecial 3, 3) := by decide +kernel
theorem d_Bk_init_4 : decode b_Bk_init 4 = .ok (.aload_n 0, 1) := by decide +kernel
theorem d_Bk_init_5 : decode b_Bk_init 5 = .ok (.sipush 201, 3) := by decide +kernel
theorem d_Bk_init_8 : decode b_Bk_init 8 = .ok (.newarray .int, 2) := by decide +kernel
theorem d_Bk_init_10 : decode b_Bk_init 10 = .ok (.putfield 9, 3) := by decide +kernel
theorem d_Bk_init_13 : decode b_Bk_init 13 = .ok (.aload_n 0, 1) := by decide +kernel
theorem d_Bk_init_14 : decode b_Bk_init 14 = .ok (.sipush 201, 3) := by decide +kernel
theorem d_Bk_init_17 : decode b_Bk_init 17 = .ok (.newarray .int, 2) := by decide +kernel
theorem d_Bk_init_19 : decode b_Bk_init 19 = .ok (.putfield 15, 3) := by decide +kernel
theorem d_Bk_init_22 : decode b_Bk_init 22 = .ok (.aload_n 0, 1) := by decide +kernel
theorem d_Bk_init_23 : decode b_Bk_init 23 = .ok (.sipush 201, 3) := by decide +kernel
theorem d_Bk_init_26 : decode b_Bk_init 26 = .ok (.newarray .int, 2) := by decide +kernel
theorem d_Bk_init_28 : decode b_Bk_init 28 = .ok (.putfield 18, 3) := by decide +kernel
theorem d_Bk_init_31 : decode b_Bk_init 31 = .ok (.aload_n 0, 1) := by decide +kernel
theorem d_Bk_init_32 : decode b_Bk_init 32 = .ok (.sipush 201, 3) := by decide +kernel
theorem d_Bk_init_35 : decode b_Bk_init 35 = .ok (.newarray .int, 2) := by decide +kernel
theorem d_Bk_init_37 : decode b_Bk_init 37 = .ok (.putfield 21, 3) := by decide +kernel
theorem d_Bk_init_40 : decode b_Bk_init 40 = .ok (.aload_n 0, 1) := by decide +kernel
theorem d_Bk_init_41 : decode b_Bk_init 41 = .ok (.sipush 201, 3) := by decide +kernel
theorem d_Bk_init_44 : decode b_Bk_init 44 = .ok (.newarray .int, 2) := by decide +kernel
theorem d_Bk_init_46 : decode b_Bk_init 46 = .ok (.putfield 24, 3) := by decide +kernel
theorem d_Bk_init_49 : decode b_Bk_init 49 = .ok (.aload_n 0, 1) := by decide +kernel
theorem d_Bk_init_50 : decode b_Bk_init 50 = .ok (.sipush 201, 3) := by decide +kernel
theorem d_Bk_init_53 : decode b_Bk_init 53 = .ok (.newarray .int, 2) := by decide +kernel
theorem d_Bk_init_55 : decode b_Bk_init 55 = .ok (.putfield 27, 3) := by decide +kernel
theorem d_Bk_init_58 : decode b_Bk_init 58 = .ok (.aload_n 0, 1) := by decide +kernel
theorem d_Bk_init_59 : decode b_Bk_init 59 = .ok (.iconst 0, 1) := by decide +kernel
theorem d_Bk_init_60 : decode b_Bk_init 60 = .ok (.putfield 30, 3) := by decide +kernel
theorem d_Bk_init_63 : decode b_Bk_init 63 = .ok (.aload_n 0, 1) := by decide +kernel
theorem d_Bk_init_64 : decode b_Bk_init 64 = .ok (.sipush 200, 3) := by decide +kernel
theorem d_Bk_init_67 : decode b_Bk_init 67 = .ok (.newarray .int, 2) := by decide +kernel
theorem d_Bk_init_69 : decode b_Bk_init 69 = .ok (.putfield 34, 3) := by decide +kernel
theorem d_Bk_init_72 : decode b_Bk_init 72 = .ok (.aload_n 0, 1) := by decide +kernel
theorem d_Bk_init_73 : decode b_Bk_init 73 = .ok (.iconst 0, 1) := by decide +kernel
theorem d_Bk_init_74 : decode b_Bk_init 74 = .ok (.putfield 37, 3) := by decide +kernel
theorem d_Bk_init_77 : decode b_Bk_init 77 = .ok (.return_, 1) := by decide +kernel
theorem d_Bk_size_0 : decode b_Bk_size 0 = .ok (.aload_n 0, 1) := by decide +kernel
theorem d_Bk_size_1 : decode b_Bk_size 1 = .ok (.getfield 30, 3) := by decide +kernel
theorem d_Bk_size_4 : decode b_Bk_size 4 = .ok (.ireturn, 1) := by decide +kernel
theorem d_Bk_has_0 : decode b_Bk_has 0 = .ok (.iload_n 1, 1) := by decide +kernel
theorem d_Bk_has_1 : decode b_Bk_has 1 = .ok (.iconst 1, 1) := by decide +kernel
theorem d_Bk_has_2 : decode b_Bk_has 2 = .ok (.if_icmp .lt 15, 3) := by decide +kernel
theorem d_Bk_has_5 : decode b_Bk_has 5 = .ok (.iload_n 1, 1) := by decide +kernel
theorem d_Bk_has_6 : decode b_Bk_has 6 = .ok (.aload_n 0, 1) := by decide +kernel
theorem d_Bk_has_7 : decode b_Bk_has 7 = .ok (.getfield 30, 3) := by decide +kernel
theorem d_Bk_has_10 : decode b_Bk_has 10 = .ok (.if_icmp .gt 7, 3) := by decide +kernel
theorem d_Bk_has_13 : decode b_Bk_has 13 = .ok (.iconst 1, 1) := by decide +kernel
theorem d_Bk_has_14 : decode b_Bk_has 14 = .ok (.goto 4, 3) := by decide +kernel
theorem d_Bk_has_17 : decode b_Bk_has 17 = .ok (.iconst 0, 1) := by decide +kernel
theorem d_Bk_has_18 : decode b_Bk_has 18 = .ok (.ireturn, 1) := by decide +kernel
theorem d_Bk_isFull_0 : decode b_Bk_isFull 0 = .ok (.aload_n 0, 1) := by decide +kernel
theorem d_Bk_isFull_1 : decode b_Bk_isFull 1 = .ok (.getfield 30, 3) := by decide +kernel
theorem d_Bk_isFull_4 : decode b_Bk_isFull 4 = .ok (.sipush 200, 3) := by decide +kernel
theorem d_Bk_isFull_7 : decode b_Bk_isFull 7 = .ok (.if_icmp .lt 7, 3) := by decide +kernel
theorem d_Bk_isFull_10 : decode b_Bk_isFull 10 = .ok (.iconst 1, 1) := by decide +kernel
theorem d_Bk_isFull_11 : decode b_Bk_isFull 11 = .ok (.goto 4, 3) := by decide +kernel
theorem d_Bk_isFull_14 : decode b_Bk_isFull 14 = .ok (.iconst 0, 1) := by decide +kernel
theorem d_Bk_isFull_15 : decode b_Bk_isFull 15 = .ok (.ireturn, 1) := by decide +kernel
theorem d_Bk_add_0 : decode b_Bk_add 0 = .ok (.aload_n 0, 1) := by decide +kernel
theorem d_Bk_add_1 : decode b_Bk_add 1 = .ok (.dup, 1) := by decide +kernel
theorem d_Bk_add_2 : decode b_Bk_add 2 = .ok (.getfield 30, 3) := by decide +kernel
theorem d_Bk_add_5 : decode b_Bk_add 5 = .ok (.iconst 1, 1) := by decide +kernel
theorem d_Bk_add_6 : decode b_Bk_add 6 = .ok (.iadd, 1) := by decide +kernel
theorem d_Bk_add_7 : decode b_Bk_add 7 = .ok (.putfield 30, 3) := by decide +kernel
theorem d_Bk_add_10 : decode b_Bk_add 10 = .ok (.aload_n 0, 1) := by decide +kernel
theorem d_Bk_add_11 : decode b_Bk_add 11 = .ok (.getfield 9, 3) := by decide +kernel
theorem d_Bk_add_14 : decode b_Bk_add 14 = .ok (.aload_n 0, 1) := by decide +kernel
theorem d_Bk_add_15 : decode b_Bk_add 15 = .ok (.getfield 30, 3) := by decide +kernel
theorem d_Bk_add_18 : decode b_Bk_add 18 = .ok (.iload_n 1, 1) := by decide +kernel
theorem d_Bk_add_19 : decode b_Bk_add 19 = .ok (.iastore, 1) := by decide +kernel
theorem d_Bk_add_20 : decode b_Bk_add 20 = .ok (.aload_n 0, 1) := by decide +kernel
theorem d_Bk_add_21 : decode b_Bk_add 21 = .ok (.getfield 15, 3) := by decide +kernel
theorem d_Bk_add_24 : decode b_Bk_add 24 = .ok (.aload_n 0, 1) := by decide +kernel
theorem d_Bk_add_25 : decode b_Bk_add 25 = .ok (.getfield 30, 3) := by decide +kernel
theorem d_Bk_add_28 : decode b_Bk_add 28 = .ok (.iload_n 2, 1) := by decide +kernel
theorem d_Bk_add_29 : decode b_Bk_add 29 = .ok (.iastore, 1) := by decide +kernel
theorem d_Bk_add_30 : decode b_Bk_add 30 = .ok (.aload_n 0, 1) := by decide +kernel
theorem d_Bk_add_31 : decode b_Bk_add 31 = .ok (.getfield 18, 3) := by decide +kernel
theorem d_Bk_add_34 : decode b_Bk_add 34 = .ok (.aload_n 0, 1) := by decide +kernel
theorem d_Bk_add_35 : decode b_Bk_add 35 = .ok (.getfield 30, 3) := by decide +kernel
theorem d_Bk_add_38 : decode b_Bk_add 38 = .ok (.iload_n 3, 1) := by decide +kernel
theorem d_Bk_add_39 : decode b_Bk_add 39 = .ok (.iastore, 1) := by decide +kernel
theorem d_Bk_add_40 : decode b_Bk_add 40 = .ok (.aload_n 0, 1) := by decide +kernel
theorem d_Bk_add_41 : decode b_Bk_add 41 = .ok (.getfield 21, 3) := by decide +kernel
theorem d_Bk_add_44 : decode b_Bk_add 44 = .ok (.aload_n 0, 1) := by decide +kernel
theorem d_Bk_add_45 : decode b_Bk_add 45 = .ok (.getfield 30, 3) := by decide +kernel
theorem d_Bk_add_48 : decode b_Bk_add 48 = .ok (.iload 4, 2) := by decide +kernel
theorem d_Bk_add_50 : decode b_Bk_add 50 = .ok (.iastore, 1) := by decide +kernel
theorem d_Bk_add_51 : decode b_Bk_add 51 = .ok (.aload_n 0, 1) := by decide +kernel
theorem d_Bk_add_52 : decode b_Bk_add 52 = .ok (.getfield 24, 3) := by decide +kernel
theorem d_Bk_add_55 : decode b_Bk_add 55 = .ok (.aload_n 0, 1) := by decide +kernel
theorem d_Bk_add_56 : decode b_Bk_add 56 = .ok (.getfield 30, 3) := by decide +kernel
theorem d_Bk_add_59 : decode b_Bk_add 59 = .ok (.iconst 0, 1) := by decide +kernel
theorem d_Bk_add_60 : decode b_Bk_add 60 = .ok (.iastore, 1) := by decide +kernel
theorem d_Bk_add_61 : decode b_Bk_add 61 = .ok (.aload_n 0, 1) := by decide +kernel
theorem d_Bk_add_62 : decode b_Bk_add 62 = .ok (.getfield 27, 3) := by decide +kernel
theorem d_Bk_add_65 : decode b_Bk_add 65 = .ok (.aload_n 0, 1) := by decide +kernel
theorem d_Bk_add_66 : decode b_Bk_add 66 = .ok (.getfield 30, 3) := by decide +kernel
theorem d_Bk_add_69 : decode b_Bk_add 69 = .ok (.iload 5, 2) := by decide +kernel
theorem d_Bk_add_71 : decode b_Bk_add 71 = .ok (.iastore, 1) := by decide +kernel
theorem d_Bk_add_72 : decode b_Bk_add 72 = .ok (.aload_n 0, 1) := by decide +kernel
theorem d_Bk_add_73 : decode b_Bk_add 73 = .ok (.getfield 30, 3) := by decide +kernel
theorem d_Bk_add_76 : decode b_Bk_add 76 = .ok (.ireturn, 1) := by decide +kernel
theorem d_Bk_personOf_0 : decode b_Bk_personOf 0 = .ok (.aload_n 0, 1) := by decide +kernel
theorem d_Bk_personOf_1 : decode b_Bk_personOf 1 = .ok (.getfield 9, 3) := by decide +kernel
theorem d_Bk_personOf_4 : decode b_Bk_personOf 4 = .ok (.iload_n 1, 1) := by decide +kernel
theorem d_Bk_personOf_5 : decode b_Bk_personOf 5 = .ok (.iaload, 1) := by decide +kernel
theorem d_Bk_personOf_6 : decode b_Bk_personOf 6 = .ok (.ireturn, 1) := by decide +kernel
theorem d_Bk_thingOf_0 : decode b_Bk_thingOf 0 = .ok (.aload_n 0, 1) := by decide +kernel
theorem d_Bk_thingOf_1 : decode b_Bk_thingOf 1 = .ok (.getfield 15, 3) := by decide +kernel
theorem d_Bk_thingOf_4 : decode b_Bk_thingOf 4 = .ok (.iload_n 1, 1) := by decide +kernel
theorem d_Bk_thingOf_5 : decode b_Bk_thingOf 5 = .ok (.iaload, 1) := by decide +kernel
theorem d_Bk_thingOf_6 : decode b_Bk_thingOf 6 = .ok (.ireturn, 1) := by decide +kernel
theorem d_Bk_fromOf_0 : decode b_Bk_fromOf 0 = .ok (.aload_n 0, 1) := by decide +kernel
theorem d_Bk_fromOf_1 : decode b_Bk_fromOf 1 = .ok (.getfield 18, 3) := by decide +kernel
theorem d_Bk_fromOf_4 : decode b_Bk_fromOf 4 = .ok (.iload_n 1, 1) := by decide +kernel
theorem d_Bk_fromOf_5 : decode b_Bk_fromOf 5 = .ok (.iaload, 1) := by decide +kernel
theorem d_Bk_fromOf_6 : decode b_Bk_fromOf 6 = .ok (.ireturn, 1) := by decide +kernel
theorem d_Bk_toOf_0 : decode b_Bk_toOf 0 = .ok (.aload_n 0, 1) := by decide +kernel
theorem d_Bk_toOf_1 : decode b_Bk_toOf 1 = .ok (.getfield 21, 3) := by decide +kernel
theorem d_Bk_toOf_4 : decode b_Bk_toOf 4 = .ok (.iload_n 1, 1) := by decide +kernel
theorem d_Bk_toOf_5 : decode b_Bk_toOf 5 = .ok (.iaload, 1) := by decide +kernel
theorem d_Bk_toOf_6 : decode b_Bk_toOf 6 = .ok (.ireturn, 1) := by decide +kernel
theorem d_Bk_stateOf_0 : decode b_Bk_stateOf 0 = .ok (.aload_n 0, 1) := by decide +kernel
theorem d_Bk_stateOf_1 : decode b_Bk_stateOf 1 = .ok (.getfield 24, 3) := by decide +kernel
theorem d_Bk_stateOf_4 : decode b_Bk_stateOf 4 = .ok (.iload_n 1, 1) := by decide +kernel
theorem d_Bk_stateOf_5 : decode b_Bk_stateOf 5 = .ok (.iaload, 1) := by decide +kernel
theorem d_Bk_stateOf_6 : decode b_Bk_stateOf 6 = .ok (.ireturn, 1) := by decide +kernel
theorem d_Bk_hostOf_0 : decode b_Bk_hostOf 0 = .ok (.aload_n 0, 1) := by decide +kernel
theorem d_Bk_hostOf_1 : decode b_Bk_hostOf 1 = .ok (.getfield 27, 3) := by decide +kernel
theorem d_Bk_hostOf_4 : decode b_Bk_hostOf 4 = .ok (.iload_n 1, 1) := by decide +kernel
theorem d_Bk_hostOf_5 : decode b_Bk_hostOf 5 = .ok (.iaload, 1) := by decide +kernel
theorem d_Bk_hostOf_6 : decode b_Bk_hostOf 6 = .ok (.ireturn, 1) := by decide +kernel
theorem d_Bk_setTimes_0 : decode b_Bk_setTimes 0 = .ok (.aload_n 0, 1) := by decide +kernel
theorem d_Bk_setTimes_1 : decode b_Bk_setTimes 1 = .ok (.getfield 18, 3) := by decide +kernel
theorem d_Bk_setTimes_4 : decode b_Bk_setTimes 4 = .ok (.iload_n 1, 1) := by decide +kernel
theorem d_Bk_setTimes_5 : decode b_Bk_setTimes 5 = .ok (.iload_n 2, 1) := by decide +kernel
theorem d_Bk_setTimes_6 : decode b_Bk_setTimes 6 = .ok (.iastore, 1) := by decide +kernel
theorem d_Bk_setTimes_7 : decode b_Bk_setTimes 7 = .ok (.aload_n 0, 1) := by decide +kernel
theorem d_Bk_setTimes_8 : decode b_Bk_setTimes 8 = .ok (.getfield 21, 3) := by decide +kernel
theorem d_Bk_setTimes_11 : decode b_Bk_setTimes 11 = .ok (.iload_n 1, 1) := by decide +kernel
theorem d_Bk_setTimes_12 : decode b_Bk_setTimes 12 = .ok (.iload_n 3, 1) := by decide +kernel
theorem d_Bk_setTimes_13 : decode b_Bk_setTimes 13 = .ok (.iastore, 1) := by decide +kernel
theorem d_Bk_setTimes_14 : decode b_Bk_setTimes 14 = .ok (.return_, 1) := by decide +kernel
theorem d_Bk_isBooked_0 : decode b_Bk_isBooked 0 = .ok (.aload_n 0, 1) := by decide +kernel
theorem d_Bk_isBooked_1 : decode b_Bk_isBooked 1 = .ok (.getfield 24, 3) := by decide +kernel
theorem d_Bk_isBooked_4 : decode b_Bk_isBooked 4 = .ok (.iload_n 1, 1) := by decide +kernel
theorem d_Bk_isBooked_5 : decode b_Bk_isBooked 5 = .ok (.iaload, 1) := by decide +kernel
theorem d_Bk_isBooked_6 : decode b_Bk_isBooked 6 = .ok (.ifCond .ne 7, 3) := by decide +kernel
theorem d_Bk_isBooked_9 : decode b_Bk_isBooked 9 = .ok (.iconst 1, 1) := by decide +kernel
theorem d_Bk_isBooked_10 : decode b_Bk_isBooked 10 = .ok (.goto 4, 3) := by decide +kernel
theorem d_Bk_isBooked_13 : decode b_Bk_isBooked 13 = .ok (.iconst 0, 1) := by decide +kernel
theorem d_Bk_isBooked_14 : decode b_Bk_isBooked 14 = .ok (.ireturn, 1) := by decide +kernel
theorem d_Bk_isBookedBy_0 : decode b_Bk_isBookedBy 0 = .ok (.aload_n 0, 1) := by decide +kernel
theorem d_Bk_isBookedBy_1 : decode b_Bk_isBookedBy 1 = .ok (.iload_n 1, 1) := by decide +kernel
theorem d_Bk_isBookedBy_2 : decode b_Bk_isBookedBy 2 = .ok (.invokevirtual 40, 3) := by decide +kernel
theorem d_Bk_isBookedBy_5 : decode b_Bk_isBookedBy 5 = .ok (.ifCond .eq 26, 3) := by decide +kernel
theorem d_Bk_isBookedBy_8 : decode b_Bk_isBookedBy 8 = .ok (.aload_n 0, 1) := by decide +kernel
theorem d_Bk_isBookedBy_9 : decode b_Bk_isBookedBy 9 = .ok (.getfield 24, 3) := by decide +kernel
theorem d_Bk_isBookedBy_12 : decode b_Bk_isBookedBy 12 = .ok (.iload_n 1, 1) := by decide +kernel
theorem d_Bk_isBookedBy_13 : decode b_Bk_isBookedBy 13 = .ok (.iaload, 1) := by decide +kernel
theorem d_Bk_isBookedBy_14 : decode b_Bk_isBookedBy 14 = .ok (.ifCond .ne 17, 3) := by decide +kernel
theorem d_Bk_isBookedBy_17 : decode b_Bk_isBookedBy 17 = .ok (.aload_n 0, 1) := by decide +kernel
theorem d_Bk_isBookedBy_18 : decode b_Bk_isBookedBy 18 = .ok (.getfield 9, 3) := by decide +kernel
theorem d_Bk_isBookedBy_21 : decode b_Bk_isBookedBy 21 = .ok (.iload_n 1, 1) := by decide +kernel
theorem d_Bk_isBookedBy_22 : decode b_Bk_isBookedBy 22 = .ok (.iaload, 1) := by decide +kernel
theorem d_Bk_isBookedBy_23 : decode b_Bk_isBookedBy 23 = .ok (.iload_n 2, 1) := by decide +kernel
theorem d_Bk_isBookedBy_24 : decode b_Bk_isBookedBy 24 = .ok (.if_icmp .ne 7, 3) := by decide +kernel
theorem d_Bk_isBookedBy_27 : decode b_Bk_isBookedBy 27 = .ok (.iconst 1, 1) := by decide +kernel
theorem d_Bk_isBookedBy_28 : decode b_Bk_isBookedBy 28 = .ok (.goto 4, 3) := by decide +kernel
theorem d_Bk_isBookedBy_31 : decode b_Bk_isBookedBy 31 = .ok (.iconst 0, 1) := by decide +kernel
theorem d_Bk_isBookedBy_32 : decode b_Bk_isBookedBy 32 = .ok (.ireturn, 1) := by decide +kernel
theorem d_Bk_lives_0 : decode b_Bk_lives 0 = .ok (.aload_n 0, 1) := by decide +kernel
theorem d_Bk_lives_1 : decode b_Bk_lives 1 = .ok (.getfield 24, 3) := by decide +kernel
theorem d_Bk_lives_4 : decode b_Bk_lives 4 = .ok (.iload_n 1, 1) := by decide +kernel
theorem d_Bk_lives_5 : decode b_Bk_lives 5 = .ok (.iaload, 1) := by decide +kernel
theorem d_Bk_lives_6 : decode b_Bk_lives 6 = .ok (.ifCond .eq 13, 3) := by decide +kernel
theorem d_Bk_lives_9 : decode b_Bk_lives 9 = .ok (.aload_n 0, 1) := by decide +kernel
theorem d_Bk_lives_10 : decode b_Bk_lives 10 = .ok (.getfield 24, 3) := by decide +kernel
theorem d_Bk_lives_13 : decode b_Bk_lives 13 = .ok (.iload_n 1, 1) := by decide +kernel
theorem d_Bk_lives_14 : decode b_Bk_lives 14 = .ok (.iaload, 1) := by decide +kernel
theorem d_Bk_lives_15 : decode b_Bk_lives 15 = .ok (.iconst 1, 1) := by decide +kernel
theorem d_Bk_lives_16 : decode b_Bk_lives 16 = .ok (.if_icmp .ne 7, 3) := by decide +kernel
theorem d_Bk_lives_19 : decode b_Bk_lives 19 = .ok (.iconst 1, 1) := by decide +kernel
theorem d_Bk_lives_20 : decode b_Bk_lives 20 = .ok (.goto 4, 3) := by decide +kernel
theorem d_Bk_lives_23 : decode b_Bk_lives 23 = .ok (.iconst 0, 1) := by decide +kernel
theorem d_Bk_lives_24 : decode b_Bk_lives 24 = .ok (.ireturn, 1) := by decide +kernel
theorem d_Bk_isEquipment_0 : decode b_Bk_isEquipment 0 = .ok (.aload_n 0, 1) := by decide +kernel
theorem d_Bk_isEquipment_1 : decode b_Bk_isEquipment 1 = .ok (.getfield 27, 3) := by decide +kernel
theorem d_Bk_isEquipment_4 : decode b_Bk_isEquipment 4 = .ok (.iload_n 1, 1) := by decide +kernel
theorem d_Bk_isEquipment_5 : decode b_Bk_isEquipment 5 = .ok (.iaload, 1) := by decide +kernel
theorem d_Bk_isEquipment_6 : decode b_Bk_isEquipment 6 = .ok (.ifCond .eq 7, 3) := by decide +kernel
theorem d_Bk_isEquipment_9 : decode b_Bk_isEquipment 9 = .ok (.iconst 1, 1) := by decide +kernel
theorem d_Bk_isEquipment_10 : decode b_Bk_isEquipment 10 = .ok (.goto 4, 3) := by decide +kernel
theorem d_Bk_isEquipment_13 : decode b_Bk_isEquipment 13 = .ok (.iconst 0, 1) := by decide +kernel
theorem d_Bk_isEquipment_14 : decode b_Bk_isEquipment 14 = .ok (.ireturn, 1) := by decide +kernel
theorem d_Bk_hasLivingEquipment_0 : decode b_Bk_hasLivingEquipment 0 = .ok (.iconst 1, 1) := by decide +kernel
theorem d_Bk_hasLivingEquipment_1 : decode b_Bk_hasLivingEquipment 1 = .ok (.istore_n 2, 1) := by decide +kernel
theorem d_Bk_hasLivingEquipment_2 : decode b_Bk_hasLivingEquipment 2 = .ok (.iload_n 2, 1) := by decide +kernel
theorem d_Bk_hasLivingEquipment_3 : decode b_Bk_hasLivingEquipment 3 = .ok (.aload_n 0, 1) := by decide +kernel
theorem d_Bk_hasLivingEquipment_4 : decode b_Bk_hasLivingEquipment 4 = .ok (.getfield 30, 3) := by decide +kernel
theorem d_Bk_hasLivingEquipment_7 : decode b_Bk_hasLivingEquipment 7 = .ok (.if_icmp .gt 29, 3) := by decide +kernel
theorem d_Bk_hasLivingEquipment_10 : decode b_Bk_hasLivingEquipment 10 = .ok (.aload_n 0, 1) := by decide +kernel
theorem d_Bk_hasLivingEquipment_11 : decode b_Bk_hasLivingEquipment 11 = .ok (.getfield 27, 3) := by decide +kernel
theorem d_Bk_hasLivingEquipment_14 : decode b_Bk_hasLivingEquipment 14 = .ok (.iload_n 2, 1) := by decide +kernel
theorem d_Bk_hasLivingEquipment_15 : decode b_Bk_hasLivingEquipment 15 = .ok (.iaload, 1) := by decide +kernel
theorem d_Bk_hasLivingEquipment_16 : decode b_Bk_hasLivingEquipment 16 = .ok (.iload_n 1, 1) := by decide +kernel
theorem d_Bk_hasLivingEquipment_17 : decode b_Bk_hasLivingEquipment 17 = .ok (.if_icmp .ne 13, 3) := by decide +kernel
theorem d_Bk_hasLivingEquipment_20 : decode b_Bk_hasLivingEquipment 20 = .ok (.aload_n 0, 1) := by decide +kernel
theorem d_Bk_hasLivingEquipment_21 : decode b_Bk_hasLivingEquipment 21 = .ok (.iload_n 2, 1) := by decide +kernel
theorem d_Bk_hasLivingEquipment_22 : decode b_Bk_hasLivingEquipment 22 = .ok (.invokevirtual 44, 3) := by decide +kernel
theorem d_Bk_hasLivingEquipment_25 : decode b_Bk_hasLivingEquipment 25 = .ok (.ifCond .eq 5, 3) := by decide +kernel
theorem d_Bk_hasLivingEquipment_28 : decode b_Bk_hasLivingEquipment 28 = .ok (.iconst 1, 1) := by decide +kernel
theorem d_Bk_hasLivingEquipment_29 : decode b_Bk_hasLivingEquipment 29 = .ok (.ireturn, 1) := by decide +kernel
theorem d_Bk_hasLivingEquipment_30 : decode b_Bk_hasLivingEquipment 30 = .ok (.iinc 2 1, 3) := by decide +kernel
theorem d_Bk_hasLivingEquipment_33 : decode b_Bk_hasLivingEquipment 33 = .ok (.goto (-31), 3) := by decide +kernel
theorem d_Bk_hasLivingEquipment_36 : decode b_Bk_hasLivingEquipment 36 = .ok (.iconst 0, 1) := by decide +kernel
theorem d_Bk_hasLivingEquipment_37 : decode b_Bk_hasLivingEquipment 37 = .ok (.ireturn, 1) := by decide +kernel
theorem d_Bk_meets_0 : decode b_Bk_meets 0 = .ok (.aload_n 0, 1) := by decide +kernel
theorem d_Bk_meets_1 : decode b_Bk_meets 1 = .ok (.getfield 18, 3) := by decide +kernel
theorem d_Bk_meets_4 : decode b_Bk_meets 4 = .ok (.iload_n 1, 1) := by decide +kernel
theorem d_Bk_meets_5 : decode b_Bk_meets 5 = .ok (.iaload, 1) := by decide +kernel
theorem d_Bk_meets_6 : decode b_Bk_meets 6 = .ok (.iload_n 3, 1) := by decide +kernel
theorem d_Bk_meets_7 : decode b_Bk_meets 7 = .ok (.if_icmp .ge 17, 3) := by decide +kernel
theorem d_Bk_meets_10 : decode b_Bk_meets 10 = .ok (.iload_n 2, 1) := by decide +kernel
theorem d_Bk_meets_11 : decode b_Bk_meets 11 = .ok (.aload_n 0, 1) := by decide +kernel
theorem d_Bk_meets_12 : decode b_Bk_meets 12 = .ok (.getfield 21, 3) := by decide +kernel
theorem d_Bk_meets_15 : decode b_Bk_meets 15 = .ok (.iload_n 1, 1) := by decide +kernel
theorem d_Bk_meets_16 : decode b_Bk_meets 16 = .ok (.iaload, 1) := by decide +kernel
theorem d_Bk_meets_17 : decode b_Bk_meets 17 = .ok (.if_icmp .ge 7, 3) := by decide +kernel
theorem d_Bk_meets_20 : decode b_Bk_meets 20 = .ok (.iconst 1, 1) := by decide +kernel
theorem d_Bk_meets_21 : decode b_Bk_meets 21 = .ok (.goto 4, 3) := by decide +kernel
theorem d_Bk_meets_24 : decode b_Bk_meets 24 = .ok (.iconst 0, 1) := by decide +kernel
theorem d_Bk_meets_25 : decode b_Bk_meets 25 = .ok (.ireturn, 1) := by decide +kernel
theorem d_Bk_isTaken_0 : decode b_Bk_isTaken 0 = .ok (.iconst 1, 1) := by decide +kernel
theorem d_Bk_isTaken_1 : decode b_Bk_isTaken 1 = .ok (.istore 5, 2) := by decide +kernel
theorem d_Bk_isTaken_3 : decode b_Bk_isTaken 3 = .ok (.iload 5, 2) := by decide +kernel
theorem d_Bk_isTaken_5 : decode b_Bk_isTaken 5 = .ok (.aload_n 0, 1) := by decide +kernel
theorem d_Bk_isTaken_6 : decode b_Bk_isTaken 6 = .ok (.getfield 30, 3) := by decide +kernel
theorem d_Bk_isTaken_9 : decode b_Bk_isTaken 9 = .ok (.if_icmp .gt 49, 3) := by decide +kernel
theorem d_Bk_isTaken_12 : decode b_Bk_isTaken 12 = .ok (.iload 5, 2) := by decide +kernel
theorem d_Bk_isTaken_14 : decode b_Bk_isTaken 14 = .ok (.iload 4, 2) := by decide +kernel
theorem d_Bk_isTaken_16 : decode b_Bk_isTaken 16 = .ok (.if_icmp .eq 36, 3) := by decide +kernel
theorem d_Bk_isTaken_19 : decode b_Bk_isTaken 19 = .ok (.aload_n 0, 1) := by decide +kernel
theorem d_Bk_isTaken_20 : decode b_Bk_isTaken 20 = .ok (.getfield 15, 3) := by decide +kernel
theorem d_Bk_isTaken_23 : decode b_Bk_isTaken 23 = .ok (.iload 5, 2) := by decide +kernel
theorem d_Bk_isTaken_25 : decode b_Bk_isTaken 25 = .ok (.iaload, 1) := by decide +kernel
theorem d_Bk_isTaken_26 : decode b_Bk_isTaken 26 = .ok (.iload_n 1, 1) := by decide +kernel
theorem d_Bk_isTaken_27 : decode b_Bk_isTaken 27 = .ok (.if_icmp .ne 25, 3) := by decide +kernel
theorem d_Bk_isTaken_30 : decode b_Bk_isTaken 30 = .ok (.aload_n 0, 1) := by decide +kernel
theorem d_Bk_isTaken_31 : decode b_Bk_isTaken 31 = .ok (.iload 5, 2) := by decide +kernel
theorem d_Bk_isTaken_33 : decode b_Bk_isTaken 33 = .ok (.invokevirtual 44, 3) := by decide +kernel
theorem d_Bk_isTaken_36 : decode b_Bk_isTaken 36 = .ok (.ifCond .eq 16, 3) := by decide +kernel
theorem d_Bk_isTaken_39 : decode b_Bk_isTaken 39 = .ok (.aload_n 0, 1) := by decide +kernel
theorem d_Bk_isTaken_40 : decode b_Bk_isTaken 40 = .ok (.iload 5, 2) := by decide +kernel
theorem d_Bk_isTaken_42 : decode b_Bk_isTaken 42 = .ok (.iload_n 2, 1) := by decide +kernel
theorem d_Bk_isTaken_43 : decode b_Bk_isTaken 43 = .ok (.iload_n 3, 1) := by decide +kernel
theorem d_Bk_isTaken_44 : decode b_Bk_isTaken 44 = .ok (.invokevirtual 47, 3) := by decide +kernel
theorem d_Bk_isTaken_47 : decode b_Bk_isTaken 47 = .ok (.ifCond .eq 5, 3) := by decide +kernel
theorem d_Bk_isTaken_50 : decode b_Bk_isTaken 50 = .ok (.iconst 1, 1) := by decide +kernel
theorem d_Bk_isTaken_51 : decode b_Bk_isTaken 51 = .ok (.ireturn, 1) := by decide +kernel
theorem d_Bk_isTaken_52 : decode b_Bk_isTaken 52 = .ok (.iinc 5 1, 3) := by decide +kernel
theorem d_Bk_isTaken_55 : decode b_Bk_isTaken 55 = .ok (.goto (-52), 3) := by decide +kernel
theorem d_Bk_isTaken_58 : decode b_Bk_isTaken 58 = .ok (.iconst 0, 1) := by decide +kernel
theorem d_Bk_isTaken_59 : decode b_Bk_isTaken 59 = .ok (.ireturn, 1) := by decide +kernel
theorem d_Bk_livingOf_0 : decode b_Bk_livingOf 0 = .ok (.iconst 0, 1) := by decide +kernel
theorem d_Bk_livingOf_1 : decode b_Bk_livingOf 1 = .ok (.istore_n 2, 1) := by decide +kernel
theorem d_Bk_livingOf_2 : decode b_Bk_livingOf 2 = .ok (.iconst 1, 1) := by decide +kernel
theorem d_Bk_livingOf_3 : decode b_Bk_livingOf 3 = .ok (.istore_n 3, 1) := by decide +kernel
theorem d_Bk_livingOf_4 : decode b_Bk_livingOf 4 = .ok (.iload_n 3, 1) := by decide +kernel
theorem d_Bk_livingOf_5 : decode b_Bk_livingOf 5 = .ok (.aload_n 0, 1) := by decide +kernel
theorem d_Bk_livingOf_6 : decode b_Bk_livingOf 6 = .ok (.getfield 30, 3) := by decide +kernel
theorem d_Bk_livingOf_9 : decode b_Bk_livingOf 9 = .ok (.if_icmp .gt 30, 3) := by decide +kernel
theorem d_Bk_livingOf_12 : decode b_Bk_livingOf 12 = .ok (.aload_n 0, 1) := by decide +kernel
theorem d_Bk_livingOf_13 : decode b_Bk_livingOf 13 = .ok (.getfield 9, 3) := by decide +kernel
theorem d_Bk_livingOf_16 : decode b_Bk_livingOf 16 = .ok (.iload_n 3, 1) := by decide +kernel
theorem d_Bk_livingOf_17 : decode b_Bk_livingOf 17 = .ok (.iaload, 1) := by decide +kernel
theorem d_Bk_livingOf_18 : decode b_Bk_livingOf 18 = .ok (.iload_n 1, 1) := by decide +kernel
theorem d_Bk_livingOf_19 : decode b_Bk_livingOf 19 = .ok (.if_icmp .ne 14, 3) := by decide +kernel
theorem d_Bk_livingOf_22 : decode b_Bk_livingOf 22 = .ok (.aload_n 0, 1) := by decide +kernel
theorem d_Bk_livingOf_23 : decode b_Bk_livingOf 23 = .ok (.iload_n 3, 1) := by decide +kernel
theorem d_Bk_livingOf_24 : decode b_Bk_livingOf 24 = .ok (.invokevirtual 44, 3) := by decide +kernel
theorem d_Bk_livingOf_27 : decode b_Bk_livingOf 27 = .ok (.ifCond .eq 6, 3) := by decide +kernel
theorem d_Bk_livingOf_30 : decode b_Bk_livingOf 30 = .ok (.iinc 2 1, 3) := by decide +kernel
theorem d_Bk_livingOf_33 : decode b_Bk_livingOf 33 = .ok (.iinc 3 1, 3) := by decide +kernel
theorem d_Bk_livingOf_36 : decode b_Bk_livingOf 36 = .ok (.goto (-32), 3) := by decide +kernel
theorem d_Bk_livingOf_39 : decode b_Bk_livingOf 39 = .ok (.iload_n 2, 1) := by decide +kernel
theorem d_Bk_livingOf_40 : decode b_Bk_livingOf 40 = .ok (.ireturn, 1) := by decide +kernel
theorem d_Bk_livingBefore_0 : decode b_Bk_livingBefore 0 = .ok (.iconst 0, 1) := by decide +kernel
theorem d_Bk_livingBefore_1 : decode b_Bk_livingBefore 1 = .ok (.istore_n 2, 1) := by decide +kernel
theorem d_Bk_livingBefore_2 : decode b_Bk_livingBefore 2 = .ok (.iconst 1, 1) := by decide +kernel
theorem d_Bk_livingBefore_3 : decode b_Bk_livingBefore 3 = .ok (.istore_n 3, 1) := by decide +kernel
theorem d_Bk_livingBefore_4 : decode b_Bk_livingBefore 4 = .ok (.iload_n 3, 1) := by decide +kernel
theorem d_Bk_livingBefore_5 : decode b_Bk_livingBefore 5 = .ok (.aload_n 0, 1) := by decide +kernel
theorem d_Bk_livingBefore_6 : decode b_Bk_livingBefore 6 = .ok (.getfield 30, 3) := by decide +kernel
theorem d_Bk_livingBefore_9 : decode b_Bk_livingBefore 9 = .ok (.if_icmp .gt 82, 3) := by decide +kernel
theorem d_Bk_livingBefore_12 : decode b_Bk_livingBefore 12 = .ok (.aload_n 0, 1) := by decide +kernel
theorem d_Bk_livingBefore_13 : decode b_Bk_livingBefore 13 = .ok (.getfield 18, 3) := by decide +kernel
theorem d_Bk_livingBefore_16 : decode b_Bk_livingBefore 16 = .ok (.iload_n 3, 1) := by decide +kernel
theorem d_Bk_livingBefore_17 : decode b_Bk_livingBefore 17 = .ok (.iaload, 1) := by decide +kernel
theorem d_Bk_livingBefore_18 : decode b_Bk_livingBefore 18 = .ok (.aload_n 0, 1) := by decide +kernel
theorem d_Bk_livingBefore_19 : decode b_Bk_livingBefore 19 = .ok (.getfield 18, 3) := by decide +kernel
theorem d_Bk_livingBefore_22 : decode b_Bk_livingBefore 22 = .ok (.iload_n 1, 1) := by decide +kernel
theorem d_Bk_livingBefore_23 : decode b_Bk_livingBefore 23 = .ok (.iaload, 1) := by decide +kernel
theorem d_Bk_livingBefore_24 : decode b_Bk_livingBefore 24 = .ok (.if_icmp .lt 23, 3) := by decide +kernel
theorem d_Bk_livingBefore_27 : decode b_Bk_livingBefore 27 = .ok (.aload_n 0, 1) := by decide +kernel
theorem d_Bk_livingBefore_28 : decode b_Bk_livingBefore 28 = .ok (.getfield 18, 3) := by decide +kernel
theorem d_Bk_livingBefore_31 : decode b_Bk_livingBefore 31 = .ok (.iload_n 3, 1) := by decide +kernel
theorem d_Bk_livingBefore_32 : decode b_Bk_livingBefore 32 = .ok (.iaload, 1) := by decide +kernel
theorem d_Bk_livingBefore_33 : decode b_Bk_livingBefore 33 = .ok (.aload_n 0, 1) := by decide +kernel
theorem d_Bk_livingBefore_34 : decode b_Bk_livingBefore 34 = .ok (.getfield 18, 3) := by decide +kernel
theorem d_Bk_livingBefore_37 : decode b_Bk_livingBefore 37 = .ok (.iload_n 1, 1) := by decide +kernel
theorem d_Bk_livingBefore_38 : decode b_Bk_livingBefore 38 = .ok (.iaload, 1) := by decide +kernel
theorem d_Bk_livingBefore_39 : decode b_Bk_livingBefore 39 = .ok (.if_icmp .ne 12, 3) := by decide +kernel
theorem d_Bk_livingBefore_42 : decode b_Bk_livingBefore 42 = .ok (.iload_n 3, 1) := by decide +kernel
theorem d_Bk_livingBefore_43 : decode b_Bk_livingBefore 43 = .ok (.iload_n 1, 1) := by decide +kernel
theorem d_Bk_livingBefore_44 : decode b_Bk_livingBefore 44 = .ok (.if_icmp .ge 7, 3) := by decide +kernel
theorem d_Bk_livingBefore_47 : decode b_Bk_livingBefore 47 = .ok (.iconst 1, 1) := by decide +kernel
theorem d_Bk_livingBefore_48 : decode b_Bk_livingBefore 48 = .ok (.goto 4, 3) := by decide +kernel
theorem d_Bk_livingBefore_51 : decode b_Bk_livingBefore 51 = .ok (.iconst 0, 1) := by decide +kernel
theorem d_Bk_livingBefore_52 : decode b_Bk_livingBefore 52 = .ok (.istore 4, 2) := by decide +kernel
theorem d_Bk_livingBefore_54 : decode b_Bk_livingBefore 54 = .ok (.iload 4, 2) := by decide +kernel
theorem d_Bk_livingBefore_56 : decode b_Bk_livingBefore 56 = .ok (.ifCond .eq 29, 3) := by decide +kernel
theorem d_Bk_livingBefore_59 : decode b_Bk_livingBefore 59 = .ok (.aload_n 0, 1) := by decide +kernel
theorem d_Bk_livingBefore_60 : decode b_Bk_livingBefore 60 = .ok (.getfield 9, 3) := by decide +kernel
theorem d_Bk_livingBefore_63 : decode b_Bk_livingBefore 63 = .ok (.iload_n 3, 1) := by decide +kernel
theorem d_Bk_livingBefore_64 : decode b_Bk_livingBefore 64 = .ok (.iaload, 1) := by decide +kernel
theorem d_Bk_livingBefore_65 : decode b_Bk_livingBefore 65 = .ok (.aload_n 0, 1) := by decide +kernel
theorem d_Bk_livingBefore_66 : decode b_Bk_livingBefore 66 = .ok (.getfield 9, 3) := by decide +kernel
theorem d_Bk_livingBefore_69 : decode b_Bk_livingBefore 69 = .ok (.iload_n 1, 1) := by decide +kernel
theorem d_Bk_livingBefore_70 : decode b_Bk_livingBefore 70 = .ok (.iaload, 1) := by decide +kernel
theorem d_Bk_livingBefore_71 : decode b_Bk_livingBefore 71 = .ok (.if_icmp .ne 14, 3) := by decide +kernel
theorem d_Bk_livingBefore_74 : decode b_Bk_livingBefore 74 = .ok (.aload_n 0, 1) := by decide +kernel
theorem d_Bk_livingBefore_75 : decode b_Bk_livingBefore 75 = .ok (.iload_n 3, 1) := by decide +kernel
theorem d_Bk_livingBefore_76 : decode b_Bk_livingBefore 76 = .ok (.invokevirtual 44, 3) := by decide +kernel
theorem d_Bk_livingBefore_79 : decode b_Bk_livingBefore 79 = .ok (.ifCond .eq 6, 3) := by decide +kernel
theorem d_Bk_livingBefore_82 : decode b_Bk_livingBefore 82 = .ok (.iinc 2 1, 3) := by decide +kernel
theorem d_Bk_livingBefore_85 : decode b_Bk_livingBefore 85 = .ok (.iinc 3 1, 3) := by decide +kernel
theorem d_Bk_livingBefore_88 : decode b_Bk_livingBefore 88 = .ok (.goto (-84), 3) := by decide +kernel
theorem d_Bk_livingBefore_91 : decode b_Bk_livingBefore 91 = .ok (.iload_n 2, 1) := by decide +kernel
theorem d_Bk_livingBefore_92 : decode b_Bk_livingBefore 92 = .ok (.ireturn, 1) := by decide +kernel
theorem d_Bk_livingAt_0 : decode b_Bk_livingAt 0 = .ok (.iconst 1, 1) := by decide +kernel
theorem d_Bk_livingAt_1 : decode b_Bk_livingAt 1 = .ok (.istore_n 3, 1) := by decide +kernel
theorem d_Bk_livingAt_2 : decode b_Bk_livingAt 2 = .ok (.iload_n 3, 1) := by decide +kernel
theorem d_Bk_livingAt_3 : decode b_Bk_livingAt 3 = .ok (.aload_n 0, 1) := by decide +kernel
theorem d_Bk_livingAt_4 : decode b_Bk_livingAt 4 = .ok (.getfield 30, 3) := by decide +kernel
theorem d_Bk_livingAt_7 : decode b_Bk_livingAt 7 = .ok (.if_icmp .gt 38, 3) := by decide +kernel
theorem d_Bk_livingAt_10 : decode b_Bk_livingAt 10 = .ok (.aload_n 0, 1) := by decide +kernel
theorem d_Bk_livingAt_11 : decode b_Bk_livingAt 11 = .ok (.getfield 9, 3) := by decide +kernel
theorem d_Bk_livingAt_14 : decode b_Bk_livingAt 14 = .ok (.iload_n 3, 1) := by decide +kernel
theorem d_Bk_livingAt_15 : decode b_Bk_livingAt 15 = .ok (.iaload, 1) := by decide +kernel
theorem d_Bk_livingAt_16 : decode b_Bk_livingAt 16 = .ok (.iload_n 1, 1) := by decide +kernel
theorem d_Bk_livingAt_17 : decode b_Bk_livingAt 17 = .ok (.if_icmp .ne 22, 3) := by decide +kernel
theorem d_Bk_livingAt_20 : decode b_Bk_livingAt 20 = .ok (.aload_n 0, 1) := by decide +kernel
theorem d_Bk_livingAt_21 : decode b_Bk_livingAt 21 = .ok (.iload_n 3, 1) := by decide +kernel
theorem d_Bk_livingAt_22 : decode b_Bk_livingAt 22 = .ok (.invokevirtual 44, 3) := by decide +kernel
theorem d_Bk_livingAt_25 : decode b_Bk_livingAt 25 = .ok (.ifCond .eq 14, 3) := by decide +kernel
theorem d_Bk_livingAt_28 : decode b_Bk_livingAt 28 = .ok (.aload_n 0, 1) := by decide +kernel
theorem d_Bk_livingAt_29 : decode b_Bk_livingAt 29 = .ok (.iload_n 3, 1) := by decide +kernel
theorem d_Bk_livingAt_30 : decode b_Bk_livingAt 30 = .ok (.invokevirtual 51, 3) := by decide +kernel
theorem d_Bk_livingAt_33 : decode b_Bk_livingAt 33 = .ok (.iload_n 2, 1) := by decide +kernel
theorem d_Bk_livingAt_34 : decode b_Bk_livingAt 34 = .ok (.if_icmp .ne 5, 3) := by decide +kernel
theorem d_Bk_livingAt_37 : decode b_Bk_livingAt 37 = .ok (.iload_n 3, 1) := by decide +kernel
theorem d_Bk_livingAt_38 : decode b_Bk_livingAt 38 = .ok (.ireturn, 1) := by decide +kernel
theorem d_Bk_livingAt_39 : decode b_Bk_livingAt 39 = .ok (.iinc 3 1, 3) := by decide +kernel
theorem d_Bk_livingAt_42 : decode b_Bk_livingAt 42 = .ok (.goto (-40), 3) := by decide +kernel
theorem d_Bk_livingAt_45 : decode b_Bk_livingAt 45 = .ok (.iconst 0, 1) := by decide +kernel
theorem d_Bk_livingAt_46 : decode b_Bk_livingAt 46 = .ok (.ireturn, 1) := by decide +kernel
theorem d_Bk_doneMinutes_0 : decode b_Bk_doneMinutes 0 = .ok (.iconst 0, 1) := by decide +kernel
theorem d_Bk_doneMinutes_1 : decode b_Bk_doneMinutes 1 = .ok (.istore_n 2, 1) := by decide +kernel
theorem d_Bk_doneMinutes_2 : decode b_Bk_doneMinutes 2 = .ok (.iconst 1, 1) := by decide +kernel
theorem d_Bk_doneMinutes_3 : decode b_Bk_doneMinutes 3 = .ok (.istore_n 3, 1) := by decide +kernel
theorem d_Bk_doneMinutes_4 : decode b_Bk_doneMinutes 4 = .ok (.iload_n 3, 1) := by decide +kernel
theorem d_Bk_doneMinutes_5 : decode b_Bk_doneMinutes 5 = .ok (.aload_n 0, 1) := by decide +kernel
theorem d_Bk_doneMinutes_6 : decode b_Bk_doneMinutes 6 = .ok (.getfield 30, 3) := by decide +kernel
theorem d_Bk_doneMinutes_9 : decode b_Bk_doneMinutes 9 = .ok (.if_icmp .gt 45, 3) := by decide +kernel
theorem d_Bk_doneMinutes_12 : decode b_Bk_doneMinutes 12 = .ok (.aload_n 0, 1) := by decide +kernel
theorem d_Bk_doneMinutes_13 : decode b_Bk_doneMinutes 13 = .ok (.getfield 15, 3) := by decide +kernel
theorem d_Bk_doneMinutes_16 : decode b_Bk_doneMinutes 16 = .ok (.iload_n 3, 1) := by decide +kernel
theorem d_Bk_doneMinutes_17 : decode b_Bk_doneMinutes 17 = .ok (.iaload, 1) := by decide +kernel
theorem d_Bk_doneMinutes_18 : decode b_Bk_doneMinutes 18 = .ok (.iload_n 1, 1) := by decide +kernel
theorem d_Bk_doneMinutes_19 : decode b_Bk_doneMinutes 19 = .ok (.if_icmp .ne 29, 3) := by decide +kernel
theorem d_Bk_doneMinutes_22 : decode b_Bk_doneMinutes 22 = .ok (.aload_n 0, 1) := by decide +kernel
theorem d_Bk_doneMinutes_23 : decode b_Bk_doneMinutes 23 = .ok (.getfield 24, 3) := by decide +kernel
theorem d_Bk_doneMinutes_26 : decode b_Bk_doneMinutes 26 = .ok (.iload_n 3, 1) := by decide +kernel
theorem d_Bk_doneMinutes_27 : decode b_Bk_doneMinutes 27 = .ok (.iaload, 1) := by decide +kernel
theorem d_Bk_doneMinutes_28 : decode b_Bk_doneMinutes 28 = .ok (.iconst 2, 1) := by decide +kernel
theorem d_Bk_doneMinutes_29 : decode b_Bk_doneMinutes 29 = .ok (.if_icmp .ne 19, 3) := by decide +kernel
theorem d_Bk_doneMinutes_32 : decode b_Bk_doneMinutes 32 = .ok (.iload_n 2, 1) := by decide +kernel
theorem d_Bk_doneMinutes_33 : decode b_Bk_doneMinutes 33 = .ok (.aload_n 0, 1) := by decide +kernel
theorem d_Bk_doneMinutes_34 : decode b_Bk_doneMinutes 34 = .ok (.getfield 21, 3) := by decide +kernel
theorem d_Bk_doneMinutes_37 : decode b_Bk_doneMinutes 37 = .ok (.iload_n 3, 1) := by decide +kernel
theorem d_Bk_doneMinutes_38 : decode b_Bk_doneMinutes 38 = .ok (.iaload, 1) := by decide +kernel
theorem d_Bk_doneMinutes_39 : decode b_Bk_doneMinutes 39 = .ok (.aload_n 0, 1) := by decide +kernel
theorem d_Bk_doneMinutes_40 : decode b_Bk_doneMinutes 40 = .ok (.getfield 18, 3) := by decide +kernel
theorem d_Bk_doneMinutes_43 : decode b_Bk_doneMinutes 43 = .ok (.iload_n 3, 1) := by decide +kernel
theorem d_Bk_doneMinutes_44 : decode b_Bk_doneMinutes 44 = .ok (.iaload, 1) := by decide +kernel
theorem d_Bk_doneMinutes_45 : decode b_Bk_doneMinutes 45 = .ok (.isub, 1) := by decide +kernel
theorem d_Bk_doneMinutes_46 : decode b_Bk_doneMinutes 46 = .ok (.iadd, 1) := by decide +kernel
