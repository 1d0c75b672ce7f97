theorem d_Br_booking_83 : decode b_Br_booking 83 = .ok (.iload_n 1, 1) := by decide +kernel
theorem d_Br_booking_84 : decode b_Br_booking 84 = .ok (.invokevirtual 100, 3) := by decide +kernel
theorem d_Br_booking_87 : decode b_Br_booking 87 = .ok (.ireturn, 1) := by decide +kernel
theorem d_Br_booking_88 : decode b_Br_booking 88 = .ok (.aload_n 0, 1) := by decide +kernel
theorem d_Br_booking_89 : decode b_Br_booking 89 = .ok (.getfield 26, 3) := by decide +kernel
theorem d_Br_booking_92 : decode b_Br_booking 92 = .ok (.iload_n 1, 1) := by decide +kernel
theorem d_Br_booking_93 : decode b_Br_booking 93 = .ok (.invokevirtual 163, 3) := by decide +kernel
theorem d_Br_booking_96 : decode b_Br_booking 96 = .ok (.ireturn, 1) := by decide +kernel
theorem d_Br_booking_97 : decode b_Br_booking 97 = .ok (.aload_n 0, 1) := by decide +kernel
theorem d_Br_booking_98 : decode b_Br_booking 98 = .ok (.getfield 26, 3) := by decide +kernel
theorem d_Br_booking_101 : decode b_Br_booking 101 = .ok (.iload_n 1, 1) := by decide +kernel
theorem d_Br_booking_102 : decode b_Br_booking 102 = .ok (.invokevirtual 166, 3) := by decide +kernel
theorem d_Br_booking_105 : decode b_Br_booking 105 = .ok (.ireturn, 1) := by decide +kernel
theorem d_Br_booking_106 : decode b_Br_booking 106 = .ok (.iconst (-1), 1) := by decide +kernel
theorem d_Br_booking_107 : decode b_Br_booking 107 = .ok (.ireturn, 1) := by decide +kernel
theorem d_Br_list_0 : decode b_Br_list 0 = .ok (.aload_n 0, 1) := by decide +kernel
theorem d_Br_list_1 : decode b_Br_list 1 = .ok (.getfield 26, 3) := by decide +kernel
theorem d_Br_list_4 : decode b_Br_list 4 = .ok (.iload_n 1, 1) := by decide +kernel
theorem d_Br_list_5 : decode b_Br_list 5 = .ok (.iload_n 2, 1) := by decide +kernel
theorem d_Br_list_6 : decode b_Br_list 6 = .ok (.invokevirtual 169, 3) := by decide +kernel
theorem d_Br_list_9 : decode b_Br_list 9 = .ok (.ireturn, 1) := by decide +kernel
theorem d_Br_person_0 : decode b_Br_person 0 = .ok (.iload_n 1, 1) := by decide +kernel
theorem d_Br_person_1 : decode b_Br_person 1 = .ok (.invokestatic 77, 3) := by decide +kernel
theorem d_Br_person_4 : decode b_Br_person 4 = .ok (.ifCond .ne 5, 3) := by decide +kernel
theorem d_Br_person_7 : decode b_Br_person 7 = .ok (.iconst (-1), 1) := by decide +kernel
theorem d_Br_person_8 : decode b_Br_person 8 = .ok (.ireturn, 1) := by decide +kernel
theorem d_Br_person_9 : decode b_Br_person 9 = .ok (.iload_n 2, 1) := by decide +kernel
theorem d_Br_person_10 : decode b_Br_person 10 = .ok (.tableswitch 65 0 2 #[26, 35, 56], 26) := by decide +kernel
theorem d_Br_person_36 : decode b_Br_person 36 = .ok (.aload_n 0, 1) := by decide +kernel
theorem d_Br_person_37 : decode b_Br_person 37 = .ok (.getfield 40, 3) := by decide +kernel
theorem d_Br_person_40 : decode b_Br_person 40 = .ok (.iload_n 1, 1) := by decide +kernel
theorem d_Br_person_41 : decode b_Br_person 41 = .ok (.invokevirtual 172, 3) := by decide +kernel
theorem d_Br_person_44 : decode b_Br_person 44 = .ok (.ireturn, 1) := by decide +kernel
theorem d_Br_person_45 : decode b_Br_person 45 = .ok (.aload_n 0, 1) := by decide +kernel
theorem d_Br_person_46 : decode b_Br_person 46 = .ok (.getfield 40, 3) := by decide +kernel
theorem d_Br_person_49 : decode b_Br_person 49 = .ok (.iload_n 1, 1) := by decide +kernel
theorem d_Br_person_50 : decode b_Br_person 50 = .ok (.aload_n 0, 1) := by decide +kernel
theorem d_Br_person_51 : decode b_Br_person 51 = .ok (.getfield 44, 3) := by decide +kernel
theorem d_Br_person_54 : decode b_Br_person 54 = .ok (.invokevirtual 175, 3) := by decide +kernel
theorem d_Br_person_57 : decode b_Br_person 57 = .ok (.ifCond .eq 7, 3) := by decide +kernel
theorem d_Br_person_60 : decode b_Br_person 60 = .ok (.iconst 1, 1) := by decide +kernel
theorem d_Br_person_61 : decode b_Br_person 61 = .ok (.goto 4, 3) := by decide +kernel
theorem d_Br_person_64 : decode b_Br_person 64 = .ok (.iconst 0, 1) := by decide +kernel
theorem d_Br_person_65 : decode b_Br_person 65 = .ok (.ireturn, 1) := by decide +kernel
theorem d_Br_person_66 : decode b_Br_person 66 = .ok (.aload_n 0, 1) := by decide +kernel
theorem d_Br_person_67 : decode b_Br_person 67 = .ok (.getfield 33, 3) := by decide +kernel
theorem d_Br_person_70 : decode b_Br_person 70 = .ok (.iload_n 1, 1) := by decide +kernel
theorem d_Br_person_71 : decode b_Br_person 71 = .ok (.invokevirtual 178, 3) := by decide +kernel
theorem d_Br_person_74 : decode b_Br_person 74 = .ok (.ireturn, 1) := by decide +kernel
theorem d_Br_person_75 : decode b_Br_person 75 = .ok (.iconst (-1), 1) := by decide +kernel
theorem d_Br_person_76 : decode b_Br_person 76 = .ok (.ireturn, 1) := by decide +kernel
theorem d_Br_used_0 : decode b_Br_used 0 = .ok (.aload_n 0, 1) := by decide +kernel
theorem d_Br_used_1 : decode b_Br_used 1 = .ok (.getfield 19, 3) := by decide +kernel
theorem d_Br_used_4 : decode b_Br_used 4 = .ok (.iload_n 1, 1) := by decide +kernel
theorem d_Br_used_5 : decode b_Br_used 5 = .ok (.invokevirtual 80, 3) := by decide +kernel
theorem d_Br_used_8 : decode b_Br_used 8 = .ok (.ifCond .eq 14, 3) := by decide +kernel
theorem d_Br_used_11 : decode b_Br_used 11 = .ok (.aload_n 0, 1) := by decide +kernel
theorem d_Br_used_12 : decode b_Br_used 12 = .ok (.getfield 26, 3) := by decide +kernel
theorem d_Br_used_15 : decode b_Br_used 15 = .ok (.iload_n 1, 1) := by decide +kernel
theorem d_Br_used_16 : decode b_Br_used 16 = .ok (.invokevirtual 181, 3) := by decide +kernel
theorem d_Br_used_19 : decode b_Br_used 19 = .ok (.goto 4, 3) := by decide +kernel
theorem d_Br_used_22 : decode b_Br_used 22 = .ok (.iconst (-1), 1) := by decide +kernel
theorem d_Br_used_23 : decode b_Br_used 23 = .ok (.ireturn, 1) := by decide +kernel
