theorem d_Wi_init_0 : decode b_Wi_init 0 = .ok (.aload_n 0, 1) := by decide +kernel
theorem d_Wi_init_1 : decode b_Wi_init 1 = .ok (.invokespecial 3, 3) := by decide +kernel
theorem d_Wi_init_4 : decode b_Wi_init 4 = .ok (.aload_n 0, 1) := by decide +kernel
theorem d_Wi_init_5 : decode b_Wi_init 5 = .ok (.bipush 60, 2) := by decide +kernel
theorem d_Wi_init_7 : decode b_Wi_init 7 = .ok (.newarray .int, 2) := by decide +kernel
theorem d_Wi_init_9 : decode b_Wi_init 9 = .ok (.putfield 9, 3) := by decide +kernel
theorem d_Wi_init_12 : decode b_Wi_init 12 = .ok (.aload_n 0, 1) := by decide +kernel
theorem d_Wi_init_13 : decode b_Wi_init 13 = .ok (.bipush 60, 2) := by decide +kernel
theorem d_Wi_init_15 : decode b_Wi_init 15 = .ok (.newarray .int, 2) := by decide +kernel
theorem d_Wi_init_17 : decode b_Wi_init 17 = .ok (.putfield 15, 3) := by decide +kernel
theorem d_Wi_init_20 : decode b_Wi_init 20 = .ok (.aload_n 0, 1) := by decide +kernel
theorem d_Wi_init_21 : decode b_Wi_init 21 = .ok (.bipush 60, 2) := by decide +kernel
theorem d_Wi_init_23 : decode b_Wi_init 23 = .ok (.newarray .int, 2) := by decide +kernel
theorem d_Wi_init_25 : decode b_Wi_init 25 = .ok (.putfield 18, 3) := by decide +kernel
theorem d_Wi_init_28 : decode b_Wi_init 28 = .ok (.aload_n 0, 1) := by decide +kernel
theorem d_Wi_init_29 : decode b_Wi_init 29 = .ok (.bipush 60, 2) := by decide +kernel
theorem d_Wi_init_31 : decode b_Wi_init 31 = .ok (.newarray .int, 2) := by decide +kernel
theorem d_Wi_init_33 : decode b_Wi_init 33 = .ok (.putfield 21, 3) := by decide +kernel
theorem d_Wi_init_36 : decode b_Wi_init 36 = .ok (.aload_n 0, 1) := by decide +kernel
theorem d_Wi_init_37 : decode b_Wi_init 37 = .ok (.bipush 60, 2) := by decide +kernel
theorem d_Wi_init_39 : decode b_Wi_init 39 = .ok (.newarray .int, 2) := by decide +kernel
theorem d_Wi_init_41 : decode b_Wi_init 41 = .ok (.putfield 24, 3) := by decide +kernel
theorem d_Wi_init_44 : decode b_Wi_init 44 = .ok (.aload_n 0, 1) := by decide +kernel
theorem d_Wi_init_45 : decode b_Wi_init 45 = .ok (.iconst 0, 1) := by decide +kernel
theorem d_Wi_init_46 : decode b_Wi_init 46 = .ok (.putfield 27, 3) := by decide +kernel
theorem d_Wi_init_49 : decode b_Wi_init 49 = .ok (.return_, 1) := by decide +kernel
theorem d_Wi_size_0 : decode b_Wi_size 0 = .ok (.aload_n 0, 1) := by decide +kernel
theorem d_Wi_size_1 : decode b_Wi_size 1 = .ok (.getfield 27, 3) := by decide +kernel
theorem d_Wi_size_4 : decode b_Wi_size 4 = .ok (.ireturn, 1) := by decide +kernel
theorem d_Wi_isFull_0 : decode b_Wi_isFull 0 = .ok (.aload_n 0, 1) := by decide +kernel
theorem d_Wi_isFull_1 : decode b_Wi_isFull 1 = .ok (.getfield 27, 3) := by decide +kernel
theorem d_Wi_isFull_4 : decode b_Wi_isFull 4 = .ok (.bipush 60, 2) := by decide +kernel
theorem d_Wi_isFull_6 : decode b_Wi_isFull 6 = .ok (.if_icmp .lt 7, 3) := by decide +kernel
theorem d_Wi_isFull_9 : decode b_Wi_isFull 9 = .ok (.iconst 1, 1) := by decide +kernel
theorem d_Wi_isFull_10 : decode b_Wi_isFull 10 = .ok (.goto 4, 3) := by decide +kernel
theorem d_Wi_isFull_13 : decode b_Wi_isFull 13 = .ok (.iconst 0, 1) := by decide +kernel
theorem d_Wi_isFull_14 : decode b_Wi_isFull 14 = .ok (.ireturn, 1) := by decide +kernel
theorem d_Wi_personOf_0 : decode b_Wi_personOf 0 = .ok (.aload_n 0, 1) := by decide +kernel
theorem d_Wi_personOf_1 : decode b_Wi_personOf 1 = .ok (.getfield 9, 3) := by decide +kernel
theorem d_Wi_personOf_4 : decode b_Wi_personOf 4 = .ok (.iload_n 1, 1) := by decide +kernel
theorem d_Wi_personOf_5 : decode b_Wi_personOf 5 = .ok (.iaload, 1) := by decide +kernel
theorem d_Wi_personOf_6 : decode b_Wi_personOf 6 = .ok (.ireturn, 1) := by decide +kernel
theorem d_Wi_thingOf_0 : decode b_Wi_thingOf 0 = .ok (.aload_n 0, 1) := by decide +kernel
theorem d_Wi_thingOf_1 : decode b_Wi_thingOf 1 = .ok (.getfield 15, 3) := by decide +kernel
theorem d_Wi_thingOf_4 : decode b_Wi_thingOf 4 = .ok (.iload_n 1, 1) := by decide +kernel
theorem d_Wi_thingOf_5 : decode b_Wi_thingOf 5 = .ok (.iaload, 1) := by decide +kernel
theorem d_Wi_thingOf_6 : decode b_Wi_thingOf 6 = .ok (.ireturn, 1) := by decide +kernel
theorem d_Wi_fromOf_0 : decode b_Wi_fromOf 0 = .ok (.aload_n 0, 1) := by decide +kernel
theorem d_Wi_fromOf_1 : decode b_Wi_fromOf 1 = .ok (.getfield 18, 3) := by decide +kernel
theorem d_Wi_fromOf_4 : decode b_Wi_fromOf 4 = .ok (.iload_n 1, 1) := by decide +kernel
theorem d_Wi_fromOf_5 : decode b_Wi_fromOf 5 = .ok (.iaload, 1) := by decide +kernel
theorem d_Wi_fromOf_6 : decode b_Wi_fromOf 6 = .ok (.ireturn, 1) := by decide +kernel
theorem d_Wi_toOf_0 : decode b_Wi_toOf 0 = .ok (.aload_n 0, 1) := by decide +kernel
theorem d_Wi_toOf_1 : decode b_Wi_toOf 1 = .ok (.getfield 21, 3) := by decide +kernel
theorem d_Wi_toOf_4 : decode b_Wi_toOf 4 = .ok (.iload_n 1, 1) := by decide +kernel
theorem d_Wi_toOf_5 : decode b_Wi_toOf 5 = .ok (.iaload, 1) := by decide +kernel
theorem d_Wi_toOf_6 : decode b_Wi_toOf 6 = .ok (.ireturn, 1) := by decide +kernel
theorem d_Wi_countOf_0 : decode b_Wi_countOf 0 = .ok (.iconst 0, 1) := by decide +kernel
theorem d_Wi_countOf_1 : decode b_Wi_countOf 1 = .ok (.istore_n 2, 1) := by decide +kernel
theorem d_Wi_countOf_2 : decode b_Wi_countOf 2 = .ok (.iconst 0, 1) := by decide +kernel
theorem d_Wi_countOf_3 : decode b_Wi_countOf 3 = .ok (.istore_n 3, 1) := by decide +kernel
theorem d_Wi_countOf_4 : decode b_Wi_countOf 4 = .ok (.iload_n 3, 1) := by decide +kernel
theorem d_Wi_countOf_5 : decode b_Wi_countOf 5 = .ok (.aload_n 0, 1) := by decide +kernel
theorem d_Wi_countOf_6 : decode b_Wi_countOf 6 = .ok (.getfield 27, 3) := by decide +kernel
theorem d_Wi_countOf_9 : decode b_Wi_countOf 9 = .ok (.if_icmp .ge 22, 3) := by decide +kernel
theorem d_Wi_countOf_12 : decode b_Wi_countOf 12 = .ok (.aload_n 0, 1) := by decide +kernel
theorem d_Wi_countOf_13 : decode b_Wi_countOf 13 = .ok (.getfield 9, 3) := by decide +kernel
theorem d_Wi_countOf_16 : decode b_Wi_countOf 16 = .ok (.iload_n 3, 1) := by decide +kernel
theorem d_Wi_countOf_17 : decode b_Wi_countOf 17 = .ok (.iaload, 1) := by decide +kernel
theorem d_Wi_countOf_18 : decode b_Wi_countOf 18 = .ok (.iload_n 1, 1) := by decide +kernel
theorem d_Wi_countOf_19 : decode b_Wi_countOf 19 = .ok (.if_icmp .ne 6, 3) := by decide +kernel
theorem d_Wi_countOf_22 : decode b_Wi_countOf 22 = .ok (.iinc 2 1, 3) := by decide +kernel
theorem d_Wi_countOf_25 : decode b_Wi_countOf 25 = .ok (.iinc 3 1, 3) := by decide +kernel
theorem d_Wi_countOf_28 : decode b_Wi_countOf 28 = .ok (.goto (-24), 3) := by decide +kernel
theorem d_Wi_countOf_31 : decode b_Wi_countOf 31 = .ok (.iload_n 2, 1) := by decide +kernel
theorem d_Wi_countOf_32 : decode b_Wi_countOf 32 = .ok (.ireturn, 1) := by decide +kernel
theorem d_Wi_move_0 : decode b_Wi_move 0 = .ok (.aload_n 0, 1) := by decide +kernel
theorem d_Wi_move_1 : decode b_Wi_move 1 = .ok (.getfield 9, 3) := by decide +kernel
theorem d_Wi_move_4 : decode b_Wi_move 4 = .ok (.iload_n 2, 1) := by decide +kernel
theorem d_Wi_move_5 : decode b_Wi_move 5 = .ok (.aload_n 0, 1) := by decide +kernel
theorem d_Wi_move_6 : decode b_Wi_move 6 = .ok (.getfield 9, 3) := by decide +kernel
theorem d_Wi_move_9 : decode b_Wi_move 9 = .ok (.iload_n 1, 1) := by decide +kernel
theorem d_Wi_move_10 : decode b_Wi_move 10 = .ok (.iaload, 1) := by decide +kernel
theorem d_Wi_move_11 : decode b_Wi_move 11 = .ok (.iastore, 1) := by decide +kernel
theorem d_Wi_move_12 : decode b_Wi_move 12 = .ok (.aload_n 0, 1) := by decide +kernel
theorem d_Wi_move_13 : decode b_Wi_move 13 = .ok (.getfield 15, 3) := by decide +kernel
theorem d_Wi_move_16 : decode b_Wi_move 16 = .ok (.iload_n 2, 1) := by decide +kernel
theorem d_Wi_move_17 : decode b_Wi_move 17 = .ok (.aload_n 0, 1) := by decide +kernel
theorem d_Wi_move_18 : decode b_Wi_move 18 = .ok (.getfield 15, 3) := by decide +kernel
theorem d_Wi_move_21 : decode b_Wi_move 21 = .ok (.iload_n 1, 1) := by decide +kernel
theorem d_Wi_move_22 : decode b_Wi_move 22 = .ok (.iaload, 1) := by decide +kernel
theorem d_Wi_move_23 : decode b_Wi_move 23 = .ok (.iastore, 1) := by decide +kernel
theorem d_Wi_move_24 : decode b_Wi_move 24 = .ok (.aload_n 0, 1) := by decide +kernel
theorem d_Wi_move_25 : decode b_Wi_move 25 = .ok (.getfield 18, 3) := by decide +kernel
theorem d_Wi_move_28 : decode b_Wi_move 28 = .ok (.iload_n 2, 1) := by decide +kernel
theorem d_Wi_move_29 : decode b_Wi_move 29 = .ok (.aload_n 0, 1) := by decide +kernel
theorem d_Wi_move_30 : decode b_Wi_move 30 = .ok (.getfield 18, 3) := by decide +kernel
theorem d_Wi_move_33 : decode b_Wi_move 33 = .ok (.iload_n 1, 1) := by decide +kernel
theorem d_Wi_move_34 : decode b_Wi_move 34 = .ok (.iaload, 1) := by decide +kernel
theorem d_Wi_move_35 : decode b_Wi_move 35 = .ok (.iastore, 1) := by decide +kernel
theorem d_Wi_move_36 : decode b_Wi_move 36 = .ok (.aload_n 0, 1) := by decide +kernel
theorem d_Wi_move_37 : decode b_Wi_move 37 = .ok (.getfield 21, 3) := by decide +kernel
theorem d_Wi_move_40 : decode b_Wi_move 40 = .ok (.iload_n 2, 1) := by decide +kernel
theorem d_Wi_move_41 : decode b_Wi_move 41 = .ok (.aload_n 0, 1) := by decide +kernel
theorem d_Wi_move_42 : decode b_Wi_move 42 = .ok (.getfield 21, 3) := by decide +kernel
theorem d_Wi_move_45 : decode b_Wi_move 45 = .ok (.iload_n 1, 1) := by decide +kernel
theorem d_Wi_move_46 : decode b_Wi_move 46 = .ok (.iaload, 1) := by decide +kernel
theorem d_Wi_move_47 : decode b_Wi_move 47 = .ok (.iastore, 1) := by decide +kernel
theorem d_Wi_move_48 : decode b_Wi_move 48 = .ok (.aload_n 0, 1) := by decide +kernel
theorem d_Wi_move_49 : decode b_Wi_move 49 = .ok (.getfield 24, 3) := by decide +kernel
theorem d_Wi_move_52 : decode b_Wi_move 52 = .ok (.iload_n 2, 1) := by decide +kernel
theorem d_Wi_move_53 : decode b_Wi_move 53 = .ok (.aload_n 0, 1) := by decide +kernel
theorem d_Wi_move_54 : decode b_Wi_move 54 = .ok (.getfield 24, 3) := by decide +kernel
theorem d_Wi_move_57 : decode b_Wi_move 57 = .ok (.iload_n 1, 1) := by decide +kernel
theorem d_Wi_move_58 : decode b_Wi_move 58 = .ok (.iaload, 1) := by decide +kernel
theorem d_Wi_move_59 : decode b_Wi_move 59 = .ok (.iastore, 1) := by decide +kernel
theorem d_Wi_move_60 : decode b_Wi_move 60 = .ok (.return_, 1) := by decide +kernel
theorem d_Wi_add_0 : decode b_Wi_add 0 = .ok (.aload_n 0, 1) := by decide +kernel
theorem d_Wi_add_1 : decode b_Wi_add 1 = .ok (.getfield 27, 3) := by decide +kernel
theorem d_Wi_add_4 : decode b_Wi_add 4 = .ok (.istore 6, 2) := by decide +kernel
theorem d_Wi_add_6 : decode b_Wi_add 6 = .ok (.iload 6, 2) := by decide +kernel
theorem d_Wi_add_8 : decode b_Wi_add 8 = .ok (.ifCond .le 33, 3) := by decide +kernel
theorem d_Wi_add_11 : decode b_Wi_add 11 = .ok (.aload_n 0, 1) := by decide +kernel
theorem d_Wi_add_12 : decode b_Wi_add 12 = .ok (.getfield 24, 3) := by decide +kernel
theorem d_Wi_add_15 : decode b_Wi_add 15 = .ok (.iload 6, 2) := by decide +kernel
theorem d_Wi_add_17 : decode b_Wi_add 17 = .ok (.iconst 1, 1) := by decide +kernel
theorem d_Wi_add_18 : decode b_Wi_add 18 = .ok (.isub, 1) := by decide +kernel
theorem d_Wi_add_19 : decode b_Wi_add 19 = .ok (.iaload, 1) := by decide +kernel
theorem d_Wi_add_20 : decode b_Wi_add 20 = .ok (.iload 5, 2) := by decide +kernel
theorem d_Wi_add_22 : decode b_Wi_add 22 = .ok (.if_icmp .le 19, 3) := by decide +kernel
theorem d_Wi_add_25 : decode b_Wi_add 25 = .ok (.aload_n 0, 1) := by decide +kernel
theorem d_Wi_add_26 : decode b_Wi_add 26 = .ok (.iload 6, 2) := by decide +kernel
theorem d_Wi_add_28 : decode b_Wi_add 28 = .ok (.iconst 1, 1) := by decide +kernel
theorem d_Wi_add_29 : decode b_Wi_add 29 = .ok (.isub, 1) := by decide +kernel
theorem d_Wi_add_30 : decode b_Wi_add 30 = .ok (.iload 6, 2) := by decide +kernel
theorem d_Wi_add_32 : decode b_Wi_add 32 = .ok (.invokevirtual 31, 3) := by decide +kernel
theorem d_Wi_add_35 : decode b_Wi_add 35 = .ok (.iinc 6 (-1), 3) := by decide +kernel
theorem d_Wi_add_38 : decode b_Wi_add 38 = .ok (.goto (-32), 3) := by decide +kernel
theorem d_Wi_add_41 : decode b_Wi_add 41 = .ok (.aload_n 0, 1) := by decide +kernel
theorem d_Wi_add_42 : decode b_Wi_add 42 = .ok (.getfield 9, 3) := by decide +kernel
theorem d_Wi_add_45 : decode b_Wi_add 45 = .ok (.iload 6, 2) := by decide +kernel
theorem d_Wi_add_47 : decode b_Wi_add 47 = .ok (.iload_n 1, 1) := by decide +kernel
theorem d_Wi_add_48 : decode b_Wi_add 48 = .ok (.iastore, 1) := by decide +kernel
theorem d_Wi_add_49 : decode b_Wi_add 49 = .ok (.aload_n 0, 1) := by decide +kernel
theorem d_Wi_add_50 : decode b_Wi_add 50 = .ok (.getfield 15, 3) := by decide +kernel
theorem d_Wi_add_53 : decode b_Wi_add 53 = .ok (.iload 6, 2) := by decide +kernel
theorem d_Wi_add_55 : decode b_Wi_add 55 = .ok (.iload_n 2, 1) := by decide +kernel
theorem d_Wi_add_56 : decode b_Wi_add 56 = .ok (.iastore, 1) := by decide +kernel
theorem d_Wi_add_57 : decode b_Wi_add 57 = .ok (.aload_n 0, 1) := by decide +kernel
theorem d_Wi_add_58 : decode b_Wi_add 58 = .ok (.getfield 18, 3) := by decide +kernel
theorem d_Wi_add_61 : decode b_Wi_add 61 = .ok (.iload 6, 2) := by decide +kernel
theorem d_Wi_add_63 : decode b_Wi_add 63 = .ok (.iload_n 3, 1) := by decide +kernel
theorem d_Wi_add_64 : decode b_Wi_add 64 = .ok (.iastore, 1) := by decide +kernel
theorem d_Wi_add_65 : decode b_Wi_add 65 = .ok (.aload_n 0, 1) := by decide +kernel
theorem d_Wi_add_66 : decode b_Wi_add 66 = .ok (.getfield 21, 3) := by decide +kernel
theorem d_Wi_add_69 : decode b_Wi_add 69 = .ok (.iload 6, 2) := by decide +kernel
theorem d_Wi_add_71 : decode b_Wi_add 71 = .ok (.iload 4, 2) := by decide +kernel
theorem d_Wi_add_73 : decode b_Wi_add 73 = .ok (.iastore, 1) := by decide +kernel
theorem d_Wi_add_74 : decode b_Wi_add 74 = .ok (.aload_n 0, 1) := by decide +kernel
theorem d_Wi_add_75 : decode b_Wi_add 75 = .ok (.getfield 24, 3) := by decide +kernel
theorem d_Wi_add_78 : decode b_Wi_add 78 = .ok (.iload 6, 2) := by decide +kernel
theorem d_Wi_add_80 : decode b_Wi_add 80 = .ok (.iload 5, 2) := by decide +kernel
theorem d_Wi_add_82 : decode b_Wi_add 82 = .ok (.iastore, 1) := by decide +kernel
theorem d_Wi_add_83 : decode b_Wi_add 83 = .ok (.aload_n 0, 1) := by decide +kernel
theorem d_Wi_add_84 : decode b_Wi_add 84 = .ok (.dup, 1) := by decide +kernel
theorem d_Wi_add_85 : decode b_Wi_add 85 = .ok (.getfield 27, 3) := by decide +kernel
theorem d_Wi_add_88 : decode b_Wi_add 88 = .ok (.iconst 1, 1) := by decide +kernel
theorem d_Wi_add_89 : decode b_Wi_add 89 = .ok (.iadd, 1) := by decide +kernel
theorem d_Wi_add_90 : decode b_Wi_add 90 = .ok (.putfield 27, 3) := by decide +kernel
theorem d_Wi_add_93 : decode b_Wi_add 93 = .ok (.aload_n 0, 1) := by decide +kernel
theorem d_Wi_add_94 : decode b_Wi_add 94 = .ok (.getfield 27, 3) := by decide +kernel
theorem d_Wi_add_97 : decode b_Wi_add 97 = .ok (.ireturn, 1) := by decide +kernel
theorem d_Wi_removeAt_0 : decode b_Wi_removeAt 0 = .ok (.iload_n 1, 1) := by decide +kernel
theorem d_Wi_removeAt_1 : decode b_Wi_removeAt 1 = .ok (.iconst 1, 1) := by decide +kernel
theorem d_Wi_removeAt_2 : decode b_Wi_removeAt 2 = .ok (.iadd, 1) := by decide +kernel
theorem d_Wi_removeAt_3 : decode b_Wi_removeAt 3 = .ok (.istore_n 2, 1) := by decide +kernel
theorem d_Wi_removeAt_4 : decode b_Wi_removeAt 4 = .ok (.iload_n 2, 1) := by decide +kernel
theorem d_Wi_removeAt_5 : decode b_Wi_removeAt 5 = .ok (.aload_n 0, 1) := by decide +kernel
theorem d_Wi_removeAt_6 : decode b_Wi_removeAt 6 = .ok (.getfield 27, 3) := by decide +kernel
theorem d_Wi_removeAt_9 : decode b_Wi_removeAt 9 = .ok (.if_icmp .ge 17, 3) := by decide +kernel
theorem d_Wi_removeAt_12 : decode b_Wi_removeAt 12 = .ok (.aload_n 0, 1) := by decide +kernel
theorem d_Wi_removeAt_13 : decode b_Wi_removeAt 13 = .ok (.iload_n 2, 1) := by decide +kernel
theorem d_Wi_removeAt_14 : decode b_Wi_removeAt 14 = .ok (.iload_n 2, 1) := by decide +kernel
theorem d_Wi_removeAt_15 : decode b_Wi_removeAt 15 = .ok (.iconst 1, 1) := by decide +kernel
theorem d_Wi_removeAt_16 : decode b_Wi_removeAt 16 = .ok (.isub, 1) := by decide +kernel
theorem d_Wi_removeAt_17 : decode b_Wi_removeAt 17 = .ok (.invokevirtual 31, 3) := by decide +kernel
theorem d_Wi_removeAt_20 : decode b_Wi_removeAt 20 = .ok (.iinc 2 1, 3) := by decide +kernel
theorem d_Wi_removeAt_23 : decode b_Wi_removeAt 23 = .ok (.goto (-19), 3) := by decide +kernel
theorem d_Wi_removeAt_26 : decode b_Wi_removeAt 26 = .ok (.aload_n 0, 1) := by decide +kernel
theorem d_Wi_removeAt_27 : decode b_Wi_removeAt 27 = .ok (.dup, 1) := by decide +kernel
theorem d_Wi_removeAt_28 : decode b_Wi_removeAt 28 = .ok (.getfield 27, 3) := by decide +kernel
theorem d_Wi_removeAt_31 : decode b_Wi_removeAt 31 = .ok (.iconst 1, 1) := by decide +kernel
theorem d_Wi_removeAt_32 : decode b_Wi_removeAt 32 = .ok (.isub, 1) := by decide +kernel
theorem d_Wi_removeAt_33 : decode b_Wi_removeAt 33 = .ok (.putfield 27, 3) := by decide +kernel
theorem d_Wi_removeAt_36 : decode b_Wi_removeAt 36 = .ok (.return_, 1) := by decide +kernel
