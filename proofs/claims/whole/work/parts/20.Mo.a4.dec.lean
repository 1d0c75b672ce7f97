theorem d_Mo_clash_63 : decode b_Mo_clash 63 = .ok (.goto 4, 3) := by decide +kernel
theorem d_Mo_clash_66 : decode b_Mo_clash 66 = .ok (.iconst 0, 1) := by decide +kernel
theorem d_Mo_clash_67 : decode b_Mo_clash 67 = .ok (.ireturn, 1) := by decide +kernel
theorem d_Mo_booking_0 : decode b_Mo_booking 0 = .ok (.aload_n 0, 1) := by decide +kernel
theorem d_Mo_booking_1 : decode b_Mo_booking 1 = .ok (.iconst 0, 1) := by decide +kernel
theorem d_Mo_booking_2 : decode b_Mo_booking 2 = .ok (.putfield 38, 3) := by decide +kernel
theorem d_Mo_booking_5 : decode b_Mo_booking 5 = .ok (.aload_n 0, 1) := by decide +kernel
theorem d_Mo_booking_6 : decode b_Mo_booking 6 = .ok (.iload_n 1, 1) := by decide +kernel
theorem d_Mo_booking_7 : decode b_Mo_booking 7 = .ok (.invokevirtual 90, 3) := by decide +kernel
theorem d_Mo_booking_10 : decode b_Mo_booking 10 = .ok (.ifCond .eq 12, 3) := by decide +kernel
theorem d_Mo_booking_13 : decode b_Mo_booking 13 = .ok (.iload_n 2, 1) := by decide +kernel
theorem d_Mo_booking_14 : decode b_Mo_booking 14 = .ok (.ifCond .lt 8, 3) := by decide +kernel
theorem d_Mo_booking_17 : decode b_Mo_booking 17 = .ok (.iload_n 2, 1) := by decide +kernel
theorem d_Mo_booking_18 : decode b_Mo_booking 18 = .ok (.iconst 5, 1) := by decide +kernel
theorem d_Mo_booking_19 : decode b_Mo_booking 19 = .ok (.if_icmp .le 7, 3) := by decide +kernel
theorem d_Mo_booking_22 : decode b_Mo_booking 22 = .ok (.iconst (-1), 1) := by decide +kernel
theorem d_Mo_booking_23 : decode b_Mo_booking 23 = .ok (.goto 14, 3) := by decide +kernel
theorem d_Mo_booking_26 : decode b_Mo_booking 26 = .ok (.aload_n 0, 1) := by decide +kernel
theorem d_Mo_booking_27 : decode b_Mo_booking 27 = .ok (.getfield 19, 3) := by decide +kernel
theorem d_Mo_booking_30 : decode b_Mo_booking 30 = .ok (.bipush 6, 2) := by decide +kernel
theorem d_Mo_booking_32 : decode b_Mo_booking 32 = .ok (.iload_n 1, 1) := by decide +kernel
theorem d_Mo_booking_33 : decode b_Mo_booking 33 = .ok (.imul, 1) := by decide +kernel
theorem d_Mo_booking_34 : decode b_Mo_booking 34 = .ok (.iload_n 2, 1) := by decide +kernel
theorem d_Mo_booking_35 : decode b_Mo_booking 35 = .ok (.iadd, 1) := by decide +kernel
theorem d_Mo_booking_36 : decode b_Mo_booking 36 = .ok (.iaload, 1) := by decide +kernel
theorem d_Mo_booking_37 : decode b_Mo_booking 37 = .ok (.ireturn, 1) := by decide +kernel
theorem d_Mo_isListed_0 : decode b_Mo_isListed 0 = .ok (.aload_n 0, 1) := by decide +kernel
theorem d_Mo_isListed_1 : decode b_Mo_isListed 1 = .ok (.iload_n 1, 1) := by decide +kernel
theorem d_Mo_isListed_2 : decode b_Mo_isListed 2 = .ok (.invokevirtual 57, 3) := by decide +kernel
theorem d_Mo_isListed_5 : decode b_Mo_isListed 5 = .ok (.ifCond .eq 20, 3) := by decide +kernel
theorem d_Mo_isListed_8 : decode b_Mo_isListed 8 = .ok (.aload_n 0, 1) := by decide +kernel
theorem d_Mo_isListed_9 : decode b_Mo_isListed 9 = .ok (.getfield 19, 3) := by decide +kernel
theorem d_Mo_isListed_12 : decode b_Mo_isListed 12 = .ok (.bipush 6, 2) := by decide +kernel
theorem d_Mo_isListed_14 : decode b_Mo_isListed 14 = .ok (.iload_n 1, 1) := by decide +kernel
theorem d_Mo_isListed_15 : decode b_Mo_isListed 15 = .ok (.imul, 1) := by decide +kernel
theorem d_Mo_isListed_16 : decode b_Mo_isListed 16 = .ok (.iaload, 1) := by decide +kernel
theorem d_Mo_isListed_17 : decode b_Mo_isListed 17 = .ok (.iload_n 2, 1) := by decide +kernel
theorem d_Mo_isListed_18 : decode b_Mo_isListed 18 = .ok (.if_icmp .ne 7, 3) := by decide +kernel
theorem d_Mo_isListed_21 : decode b_Mo_isListed 21 = .ok (.iconst 1, 1) := by decide +kernel
theorem d_Mo_isListed_22 : decode b_Mo_isListed 22 = .ok (.goto 4, 3) := by decide +kernel
theorem d_Mo_isListed_25 : decode b_Mo_isListed 25 = .ok (.iconst 0, 1) := by decide +kernel
theorem d_Mo_isListed_26 : decode b_Mo_isListed 26 = .ok (.ireturn, 1) := by decide +kernel
theorem d_Mo_list_0 : decode b_Mo_list 0 = .ok (.aload_n 0, 1) := by decide +kernel
theorem d_Mo_list_1 : decode b_Mo_list 1 = .ok (.iconst 0, 1) := by decide +kernel
theorem d_Mo_list_2 : decode b_Mo_list 2 = .ok (.putfield 38, 3) := by decide +kernel
theorem d_Mo_list_5 : decode b_Mo_list 5 = .ok (.iconst 1, 1) := by decide +kernel
theorem d_Mo_list_6 : decode b_Mo_list 6 = .ok (.istore_n 3, 1) := by decide +kernel
theorem d_Mo_list_7 : decode b_Mo_list 7 = .ok (.iload_n 3, 1) := by decide +kernel
theorem d_Mo_list_8 : decode b_Mo_list 8 = .ok (.aload_n 0, 1) := by decide +kernel
theorem d_Mo_list_9 : decode b_Mo_list 9 = .ok (.getfield 46, 3) := by decide +kernel
theorem d_Mo_list_12 : decode b_Mo_list 12 = .ok (.if_icmp .gt 118, 3) := by decide +kernel
theorem d_Mo_list_15 : decode b_Mo_list 15 = .ok (.iload_n 2, 1) := by decide +kernel
theorem d_Mo_list_16 : decode b_Mo_list 16 = .ok (.ifCond .lt 114, 3) := by decide +kernel
theorem d_Mo_list_19 : decode b_Mo_list 19 = .ok (.aload_n 0, 1) := by decide +kernel
theorem d_Mo_list_20 : decode b_Mo_list 20 = .ok (.iload_n 3, 1) := by decide +kernel
theorem d_Mo_list_21 : decode b_Mo_list 21 = .ok (.iload_n 1, 1) := by decide +kernel
theorem d_Mo_list_22 : decode b_Mo_list 22 = .ok (.invokevirtual 120, 3) := by decide +kernel
theorem d_Mo_list_25 : decode b_Mo_list 25 = .ok (.ifCond .eq 99, 3) := by decide +kernel
theorem d_Mo_list_28 : decode b_Mo_list 28 = .ok (.iconst 0, 1) := by decide +kernel
theorem d_Mo_list_29 : decode b_Mo_list 29 = .ok (.istore 4, 2) := by decide +kernel
theorem d_Mo_list_31 : decode b_Mo_list 31 = .ok (.iconst 1, 1) := by decide +kernel
theorem d_Mo_list_32 : decode b_Mo_list 32 = .ok (.istore 5, 2) := by decide +kernel
theorem d_Mo_list_34 : decode b_Mo_list 34 = .ok (.iload 5, 2) := by decide +kernel
theorem d_Mo_list_36 : decode b_Mo_list 36 = .ok (.aload_n 0, 1) := by decide +kernel
theorem d_Mo_list_37 : decode b_Mo_list 37 = .ok (.getfield 46, 3) := by decide +kernel
theorem d_Mo_list_40 : decode b_Mo_list 40 = .ok (.if_icmp .gt 76, 3) := by decide +kernel
theorem d_Mo_list_43 : decode b_Mo_list 43 = .ok (.aload_n 0, 1) := by decide +kernel
theorem d_Mo_list_44 : decode b_Mo_list 44 = .ok (.getfield 19, 3) := by decide +kernel
theorem d_Mo_list_47 : decode b_Mo_list 47 = .ok (.bipush 6, 2) := by decide +kernel
theorem d_Mo_list_49 : decode b_Mo_list 49 = .ok (.iload 5, 2) := by decide +kernel
theorem d_Mo_list_51 : decode b_Mo_list 51 = .ok (.imul, 1) := by decide +kernel
theorem d_Mo_list_52 : decode b_Mo_list 52 = .ok (.iconst 2, 1) := by decide +kernel
theorem d_Mo_list_53 : decode b_Mo_list 53 = .ok (.iadd, 1) := by decide +kernel
theorem d_Mo_list_54 : decode b_Mo_list 54 = .ok (.iaload, 1) := by decide +kernel
theorem d_Mo_list_55 : decode b_Mo_list 55 = .ok (.istore 6, 2) := by decide +kernel
theorem d_Mo_list_57 : decode b_Mo_list 57 = .ok (.aload_n 0, 1) := by decide +kernel
theorem d_Mo_list_58 : decode b_Mo_list 58 = .ok (.getfield 19, 3) := by decide +kernel
theorem d_Mo_list_61 : decode b_Mo_list 61 = .ok (.bipush 6, 2) := by decide +kernel
theorem d_Mo_list_63 : decode b_Mo_list 63 = .ok (.iload_n 3, 1) := by decide +kernel
theorem d_Mo_list_64 : decode b_Mo_list 64 = .ok (.imul, 1) := by decide +kernel
theorem d_Mo_list_65 : decode b_Mo_list 65 = .ok (.iconst 2, 1) := by decide +kernel
theorem d_Mo_list_66 : decode b_Mo_list 66 = .ok (.iadd, 1) := by decide +kernel
theorem d_Mo_list_67 : decode b_Mo_list 67 = .ok (.iaload, 1) := by decide +kernel
theorem d_Mo_list_68 : decode b_Mo_list 68 = .ok (.istore 7, 2) := by decide +kernel
theorem d_Mo_list_70 : decode b_Mo_list 70 = .ok (.iload 4, 2) := by decide +kernel
theorem d_Mo_list_72 : decode b_Mo_list 72 = .ok (.aload_n 0, 1) := by decide +kernel
theorem d_Mo_list_73 : decode b_Mo_list 73 = .ok (.iload 5, 2) := by decide +kernel
theorem d_Mo_list_75 : decode b_Mo_list 75 = .ok (.iload_n 1, 1) := by decide +kernel
theorem d_Mo_list_76 : decode b_Mo_list 76 = .ok (.invokevirtual 120, 3) := by decide +kernel
theorem d_Mo_list_79 : decode b_Mo_list 79 = .ok (.ifCond .eq 27, 3) := by decide +kernel
theorem d_Mo_list_82 : decode b_Mo_list 82 = .ok (.iload 6, 2) := by decide +kernel
theorem d_Mo_list_84 : decode b_Mo_list 84 = .ok (.iload 7, 2) := by decide +kernel
theorem d_Mo_list_86 : decode b_Mo_list 86 = .ok (.if_icmp .lt 16, 3) := by decide +kernel
theorem d_Mo_list_89 : decode b_Mo_list 89 = .ok (.iload 6, 2) := by decide +kernel
theorem d_Mo_list_91 : decode b_Mo_list 91 = .ok (.iload 7, 2) := by decide +kernel
theorem d_Mo_list_93 : decode b_Mo_list 93 = .ok (.if_icmp .ne 13, 3) := by decide +kernel
theorem d_Mo_list_96 : decode b_Mo_list 96 = .ok (.iload 5, 2) := by decide +kernel
theorem d_Mo_list_98 : decode b_Mo_list 98 = .ok (.iload_n 3, 1) := by decide +kernel
theorem d_Mo_list_99 : decode b_Mo_list 99 = .ok (.if_icmp .ge 7, 3) := by decide +kernel
theorem d_Mo_list_102 : decode b_Mo_list 102 = .ok (.iconst 1, 1) := by decide +kernel
theorem d_Mo_list_103 : decode b_Mo_list 103 = .ok (.goto 4, 3) := by decide +kernel
theorem d_Mo_list_106 : decode b_Mo_list 106 = .ok (.iconst 0, 1) := by decide +kernel
theorem d_Mo_list_107 : decode b_Mo_list 107 = .ok (.iadd, 1) := by decide +kernel
theorem d_Mo_list_108 : decode b_Mo_list 108 = .ok (.istore 4, 2) := by decide +kernel
theorem d_Mo_list_110 : decode b_Mo_list 110 = .ok (.iinc 5 1, 3) := by decide +kernel
theorem d_Mo_list_113 : decode b_Mo_list 113 = .ok (.goto (-79), 3) := by decide +kernel
theorem d_Mo_list_116 : decode b_Mo_list 116 = .ok (.iload 4, 2) := by decide +kernel
theorem d_Mo_list_118 : decode b_Mo_list 118 = .ok (.iload_n 2, 1) := by decide +kernel
theorem d_Mo_list_119 : decode b_Mo_list 119 = .ok (.if_icmp .ne 5, 3) := by decide +kernel
theorem d_Mo_list_122 : decode b_Mo_list 122 = .ok (.iload_n 3, 1) := by decide +kernel
theorem d_Mo_list_123 : decode b_Mo_list 123 = .ok (.ireturn, 1) := by decide +kernel
theorem d_Mo_list_124 : decode b_Mo_list 124 = .ok (.iinc 3 1, 3) := by decide +kernel
theorem d_Mo_list_127 : decode b_Mo_list 127 = .ok (.goto (-120), 3) := by decide +kernel
theorem d_Mo_list_130 : decode b_Mo_list 130 = .ok (.iconst 0, 1) := by decide +kernel
theorem d_Mo_list_131 : decode b_Mo_list 131 = .ok (.ireturn, 1) := by decide +kernel
theorem d_Mo_person_0 : decode b_Mo_person 0 = .ok (.aload_n 0, 1) := by decide +kernel
theorem d_Mo_person_1 : decode b_Mo_person 1 = .ok (.iconst 0, 1) := by decide +kernel
theorem d_Mo_person_2 : decode b_Mo_person 2 = .ok (.putfield 38, 3) := by decide +kernel
theorem d_Mo_person_5 : decode b_Mo_person 5 = .ok (.iload_n 1, 1) := by decide +kernel
theorem d_Mo_person_6 : decode b_Mo_person 6 = .ok (.invokestatic 77, 3) := by decide +kernel
theorem d_Mo_person_9 : decode b_Mo_person 9 = .ok (.ifCond .eq 12, 3) := by decide +kernel
theorem d_Mo_person_12 : decode b_Mo_person 12 = .ok (.iload_n 2, 1) := by decide +kernel
theorem d_Mo_person_13 : decode b_Mo_person 13 = .ok (.ifCond .lt 8, 3) := by decide +kernel
theorem d_Mo_person_16 : decode b_Mo_person 16 = .ok (.iload_n 2, 1) := by decide +kernel
theorem d_Mo_person_17 : decode b_Mo_person 17 = .ok (.iconst 2, 1) := by decide +kernel
theorem d_Mo_person_18 : decode b_Mo_person 18 = .ok (.if_icmp .le 5, 3) := by decide +kernel
theorem d_Mo_person_21 : decode b_Mo_person 21 = .ok (.iconst (-1), 1) := by decide +kernel
theorem d_Mo_person_22 : decode b_Mo_person 22 = .ok (.ireturn, 1) := by decide +kernel
theorem d_Mo_person_23 : decode b_Mo_person 23 = .ok (.iload_n 2, 1) := by decide +kernel
theorem d_Mo_person_24 : decode b_Mo_person 24 = .ok (.iconst 2, 1) := by decide +kernel
theorem d_Mo_person_25 : decode b_Mo_person 25 = .ok (.if_icmp .ge 35, 3) := by decide +kernel
theorem d_Mo_person_28 : decode b_Mo_person 28 = .ok (.iload_n 2, 1) := by decide +kernel
theorem d_Mo_person_29 : decode b_Mo_person 29 = .ok (.ifCond .ne 12, 3) := by decide +kernel
theorem d_Mo_person_32 : decode b_Mo_person 32 = .ok (.aload_n 0, 1) := by decide +kernel
theorem d_Mo_person_33 : decode b_Mo_person 33 = .ok (.getfield 25, 3) := by decide +kernel
theorem d_Mo_person_36 : decode b_Mo_person 36 = .ok (.iload_n 1, 1) := by decide +kernel
theorem d_Mo_person_37 : decode b_Mo_person 37 = .ok (.iaload, 1) := by decide +kernel
theorem d_Mo_person_38 : decode b_Mo_person 38 = .ok (.goto 21, 3) := by decide +kernel
theorem d_Mo_person_41 : decode b_Mo_person 41 = .ok (.aload_n 0, 1) := by decide +kernel
theorem d_Mo_person_42 : decode b_Mo_person 42 = .ok (.getfield 67, 3) := by decide +kernel
theorem d_Mo_person_45 : decode b_Mo_person 45 = .ok (.aload_n 0, 1) := by decide +kernel
theorem d_Mo_person_46 : decode b_Mo_person 46 = .ok (.getfield 28, 3) := by decide +kernel
theorem d_Mo_person_49 : decode b_Mo_person 49 = .ok (.iload_n 1, 1) := by decide +kernel
theorem d_Mo_person_50 : decode b_Mo_person 50 = .ok (.iaload, 1) := by decide +kernel
theorem d_Mo_person_51 : decode b_Mo_person 51 = .ok (.if_icmp .ge 7, 3) := by decide +kernel
theorem d_Mo_person_54 : decode b_Mo_person 54 = .ok (.iconst 1, 1) := by decide +kernel
theorem d_Mo_person_55 : decode b_Mo_person 55 = .ok (.goto 4, 3) := by decide +kernel
theorem d_Mo_person_58 : decode b_Mo_person 58 = .ok (.iconst 0, 1) := by decide +kernel
theorem d_Mo_person_59 : decode b_Mo_person 59 = .ok (.ireturn, 1) := by decide +kernel
theorem d_Mo_person_60 : decode b_Mo_person 60 = .ok (.iconst 0, 1) := by decide +kernel
theorem d_Mo_person_61 : decode b_Mo_person 61 = .ok (.istore_n 3, 1) := by decide +kernel
theorem d_Mo_person_62 : decode b_Mo_person 62 = .ok (.iconst 0, 1) := by decide +kernel
theorem d_Mo_person_63 : decode b_Mo_person 63 = .ok (.istore 4, 2) := by decide +kernel
theorem d_Mo_person_65 : decode b_Mo_person 65 = .ok (.iload 4, 2) := by decide +kernel
theorem d_Mo_person_67 : decode b_Mo_person 67 = .ok (.aload_n 0, 1) := by decide +kernel
theorem d_Mo_person_68 : decode b_Mo_person 68 = .ok (.getfield 93, 3) := by decide +kernel
theorem d_Mo_person_71 : decode b_Mo_person 71 = .ok (.if_icmp .ge 30, 3) := by decide +kernel
theorem d_Mo_person_74 : decode b_Mo_person 74 = .ok (.iload_n 3, 1) := by decide +kernel
theorem d_Mo_person_75 : decode b_Mo_person 75 = .ok (.aload_n 0, 1) := by decide +kernel
theorem d_Mo_person_76 : decode b_Mo_person 76 = .ok (.getfield 22, 3) := by decide +kernel
theorem d_Mo_person_79 : decode b_Mo_person 79 = .ok (.iconst 5, 1) := by decide +kernel
theorem d_Mo_person_80 : decode b_Mo_person 80 = .ok (.iload 4, 2) := by decide +kernel
theorem d_Mo_person_82 : decode b_Mo_person 82 = .ok (.imul, 1) := by decide +kernel
theorem d_Mo_person_83 : decode b_Mo_person 83 = .ok (.iaload, 1) := by decide +kernel
theorem d_Mo_person_84 : decode b_Mo_person 84 = .ok (.iload_n 1, 1) := by decide +kernel
theorem d_Mo_person_85 : decode b_Mo_person 85 = .ok (.if_icmp .ne 7, 3) := by decide +kernel
theorem d_Mo_person_88 : decode b_Mo_person 88 = .ok (.iconst 1, 1) := by decide +kernel
theorem d_Mo_person_89 : decode b_Mo_person 89 = .ok (.goto 4, 3) := by decide +kernel
theorem d_Mo_person_92 : decode b_Mo_person 92 = .ok (.iconst 0, 1) := by decide +kernel
theorem d_Mo_person_93 : decode b_Mo_person 93 = .ok (.iadd, 1) := by decide +kernel
theorem d_Mo_person_94 : decode b_Mo_person 94 = .ok (.istore_n 3, 1) := by decide +kernel
theorem d_Mo_person_95 : decode b_Mo_person 95 = .ok (.iinc 4 1, 3) := by decide +kernel
theorem d_Mo_person_98 : decode b_Mo_person 98 = .ok (.goto (-33), 3) := by decide +kernel
theorem d_Mo_person_101 : decode b_Mo_person 101 = .ok (.iload_n 3, 1) := by decide +kernel
theorem d_Mo_person_102 : decode b_Mo_person 102 = .ok (.ireturn, 1) := by decide +kernel
theorem d_Mo_used_0 : decode b_Mo_used 0 = .ok (.aload_n 0, 1) := by decide +kernel
theorem d_Mo_used_1 : decode b_Mo_used 1 = .ok (.iconst 0, 1) := by decide +kernel
theorem d_Mo_used_2 : decode b_Mo_used 2 = .ok (.putfield 38, 3) := by decide +kernel
theorem d_Mo_used_5 : decode b_Mo_used 5 = .ok (.aload_n 0, 1) := by decide +kernel
theorem d_Mo_used_6 : decode b_Mo_used 6 = .ok (.iload_n 1, 1) := by decide +kernel
theorem d_Mo_used_7 : decode b_Mo_used 7 = .ok (.invokevirtual 80, 3) := by decide +kernel
theorem d_Mo_used_10 : decode b_Mo_used 10 = .ok (.ifCond .ne 5, 3) := by decide +kernel
theorem d_Mo_used_13 : decode b_Mo_used 13 = .ok (.iconst (-1), 1) := by decide +kernel
theorem d_Mo_used_14 : decode b_Mo_used 14 = .ok (.ireturn, 1) := by decide +kernel
theorem d_Mo_used_15 : decode b_Mo_used 15 = .ok (.iconst 0, 1) := by decide +kernel
theorem d_Mo_used_16 : decode b_Mo_used 16 = .ok (.istore_n 2, 1) := by decide +kernel
theorem d_Mo_used_17 : decode b_Mo_used 17 = .ok (.iconst 1, 1) := by decide +kernel
theorem d_Mo_used_18 : decode b_Mo_used 18 = .ok (.istore_n 3, 1) := by decide +kernel
theorem d_Mo_used_19 : decode b_Mo_used 19 = .ok (.iload_n 3, 1) := by decide +kernel
theorem d_Mo_used_20 : decode b_Mo_used 20 = .ok (.aload_n 0, 1) := by decide +kernel
theorem d_Mo_used_21 : decode b_Mo_used 21 = .ok (.getfield 46, 3) := by decide +kernel
theorem d_Mo_used_24 : decode b_Mo_used 24 = .ok (.if_icmp .gt 69, 3) := by decide +kernel
theorem d_Mo_used_27 : decode b_Mo_used 27 = .ok (.iload_n 2, 1) := by decide +kernel
theorem d_Mo_used_28 : decode b_Mo_used 28 = .ok (.aload_n 0, 1) := by decide +kernel
theorem d_Mo_used_29 : decode b_Mo_used 29 = .ok (.getfield 19, 3) := by decide +kernel
theorem d_Mo_used_32 : decode b_Mo_used 32 = .ok (.bipush 6, 2) := by decide +kernel
theorem d_Mo_used_34 : decode b_Mo_used 34 = .ok (.iload_n 3, 1) := by decide +kernel
theorem d_Mo_used_35 : decode b_Mo_used 35 = .ok (.imul, 1) := by decide +kernel
theorem d_Mo_used_36 : decode b_Mo_used 36 = .ok (.iconst 1, 1) := by decide +kernel
theorem d_Mo_used_37 : decode b_Mo_used 37 = .ok (.iadd, 1) := by decide +kernel
theorem d_Mo_used_38 : decode b_Mo_used 38 = .ok (.iaload, 1) := by decide +kernel
theorem d_Mo_used_39 : decode b_Mo_used 39 = .ok (.iload_n 1, 1) := by decide +kernel
theorem d_Mo_used_40 : decode b_Mo_used 40 = .ok (.if_icmp .ne 44, 3) := by decide +kernel
theorem d_Mo_used_43 : decode b_Mo_used 43 = .ok (.aload_n 0, 1) := by decide +kernel
theorem d_Mo_used_44 : decode b_Mo_used 44 = .ok (.getfield 19, 3) := by decide +kernel
theorem d_Mo_used_47 : decode b_Mo_used 47 = .ok (.bipush 6, 2) := by decide +kernel
theorem d_Mo_used_49 : decode b_Mo_used 49 = .ok (.iload_n 3, 1) := by decide +kernel
theorem d_Mo_used_50 : decode b_Mo_used 50 = .ok (.imul, 1) := by decide +kernel
theorem d_Mo_used_51 : decode b_Mo_used 51 = .ok (.iconst 4, 1) := by decide +kernel
theorem d_Mo_used_52 : decode b_Mo_used 52 = .ok (.iadd, 1) := by decide +kernel
theorem d_Mo_used_53 : decode b_Mo_used 53 = .ok (.iaload, 1) := by decide +kernel
theorem d_Mo_used_54 : decode b_Mo_used 54 = .ok (.iconst 2, 1) := by decide +kernel
theorem d_Mo_used_55 : decode b_Mo_used 55 = .ok (.if_icmp .ne 29, 3) := by decide +kernel
theorem d_Mo_used_58 : decode b_Mo_used 58 = .ok (.aload_n 0, 1) := by decide +kernel
theorem d_Mo_used_59 : decode b_Mo_used 59 = .ok (.getfield 19, 3) := by decide +kernel
theorem d_Mo_used_62 : decode b_Mo_used 62 = .ok (.bipush 6, 2) := by decide +kernel
theorem d_Mo_used_64 : decode b_Mo_used 64 = .ok (.iload_n 3, 1) := by decide +kernel
theorem d_Mo_used_65 : decode b_Mo_used 65 = .ok (.imul, 1) := by decide +kernel
theorem d_Mo_used_66 : decode b_Mo_used 66 = .ok (.iconst 3, 1) := by decide +kernel
theorem d_Mo_used_67 : decode b_Mo_used 67 = .ok (.iadd, 1) := by decide +kernel
theorem d_Mo_used_68 : decode b_Mo_used 68 = .ok (.iaload, 1) := by decide +kernel
theorem d_Mo_used_69 : decode b_Mo_used 69 = .ok (.aload_n 0, 1) := by decide +kernel
theorem d_Mo_used_70 : decode b_Mo_used 70 = .ok (.getfield 19, 3) := by decide +kernel
theorem d_Mo_used_73 : decode b_Mo_used 73 = .ok (.bipush 6, 2) := by decide +kernel
theorem d_Mo_used_75 : decode b_Mo_used 75 = .ok (.iload_n 3, 1) := by decide +kernel
theorem d_Mo_used_76 : decode b_Mo_used 76 = .ok (.imul, 1) := by decide +kernel
theorem d_Mo_used_77 : decode b_Mo_used 77 = .ok (.iconst 2, 1) := by decide +kernel
theorem d_Mo_used_78 : decode b_Mo_used 78 = .ok (.iadd, 1) := by decide +kernel
theorem d_Mo_used_79 : decode b_Mo_used 79 = .ok (.iaload, 1) := by decide +kernel
theorem d_Mo_used_80 : decode b_Mo_used 80 = .ok (.isub, 1) := by decide +kernel
theorem d_Mo_used_81 : decode b_Mo_used 81 = .ok (.goto 4, 3) := by decide +kernel
theorem d_Mo_used_84 : decode b_Mo_used 84 = .ok (.iconst 0, 1) := by decide +kernel
theorem d_Mo_used_85 : decode b_Mo_used 85 = .ok (.iadd, 1) := by decide +kernel
theorem d_Mo_used_86 : decode b_Mo_used 86 = .ok (.istore_n 2, 1) := by decide +kernel
theorem d_Mo_used_87 : decode b_Mo_used 87 = .ok (.iinc 3 1, 3) := by decide +kernel
theorem d_Mo_used_90 : decode b_Mo_used 90 = .ok (.goto (-71), 3) := by decide +kernel
theorem d_Mo_used_93 : decode b_Mo_used 93 = .ok (.iload_n 2, 1) := by decide +kernel
theorem d_Mo_used_94 : decode b_Mo_used 94 = .ok (.ireturn, 1) := by decide +kernel
