theorem d_Mo_init_0 : decode b_Mo_init 0 = .ok (.aload_n 0, 1) := by decide +kernel
theorem d_Mo_init_1 : decode b_Mo_init 1 = .ok (.invokespecial 1, 3) := by decide +kernel
theorem d_Mo_init_4 : decode b_Mo_init 4 = .ok (.aload_n 0, 1) := by decide +kernel
theorem d_Mo_init_5 : decode b_Mo_init 5 = .ok (.bipush 56, 2) := by decide +kernel
theorem d_Mo_init_7 : decode b_Mo_init 7 = .ok (.newarray .int, 2) := by decide +kernel
theorem d_Mo_init_9 : decode b_Mo_init 9 = .ok (.putfield 7, 3) := by decide +kernel
theorem d_Mo_init_12 : decode b_Mo_init 12 = .ok (.aload_n 0, 1) := by decide +kernel
theorem d_Mo_init_13 : decode b_Mo_init 13 = .ok (.bipush 40, 2) := by decide +kernel
theorem d_Mo_init_15 : decode b_Mo_init 15 = .ok (.newarray .int, 2) := by decide +kernel
theorem d_Mo_init_17 : decode b_Mo_init 17 = .ok (.putfield 13, 3) := by decide +kernel
theorem d_Mo_init_20 : decode b_Mo_init 20 = .ok (.aload_n 0, 1) := by decide +kernel
theorem d_Mo_init_21 : decode b_Mo_init 21 = .ok (.sipush 150, 3) := by decide +kernel
theorem d_Mo_init_24 : decode b_Mo_init 24 = .ok (.newarray .int, 2) := by decide +kernel
theorem d_Mo_init_26 : decode b_Mo_init 26 = .ok (.putfield 16, 3) := by decide +kernel
theorem d_Mo_init_29 : decode b_Mo_init 29 = .ok (.aload_n 0, 1) := by decide +kernel
theorem d_Mo_init_30 : decode b_Mo_init 30 = .ok (.sipush 1206, 3) := by decide +kernel
theorem d_Mo_init_33 : decode b_Mo_init 33 = .ok (.newarray .int, 2) := by decide +kernel
theorem d_Mo_init_35 : decode b_Mo_init 35 = .ok (.putfield 19, 3) := by decide +kernel
theorem d_Mo_init_38 : decode b_Mo_init 38 = .ok (.aload_n 0, 1) := by decide +kernel
theorem d_Mo_init_39 : decode b_Mo_init 39 = .ok (.sipush 300, 3) := by decide +kernel
theorem d_Mo_init_42 : decode b_Mo_init 42 = .ok (.newarray .int, 2) := by decide +kernel
theorem d_Mo_init_44 : decode b_Mo_init 44 = .ok (.putfield 22, 3) := by decide +kernel
theorem d_Mo_init_47 : decode b_Mo_init 47 = .ok (.aload_n 0, 1) := by decide +kernel
theorem d_Mo_init_48 : decode b_Mo_init 48 = .ok (.bipush 40, 2) := by decide +kernel
theorem d_Mo_init_50 : decode b_Mo_init 50 = .ok (.newarray .int, 2) := by decide +kernel
theorem d_Mo_init_52 : decode b_Mo_init 52 = .ok (.putfield 25, 3) := by decide +kernel
theorem d_Mo_init_55 : decode b_Mo_init 55 = .ok (.aload_n 0, 1) := by decide +kernel
theorem d_Mo_init_56 : decode b_Mo_init 56 = .ok (.bipush 40, 2) := by decide +kernel
theorem d_Mo_init_58 : decode b_Mo_init 58 = .ok (.newarray .int, 2) := by decide +kernel
theorem d_Mo_init_60 : decode b_Mo_init 60 = .ok (.putfield 28, 3) := by decide +kernel
theorem d_Mo_init_63 : decode b_Mo_init 63 = .ok (.aload_n 0, 1) := by decide +kernel
theorem d_Mo_init_64 : decode b_Mo_init 64 = .ok (.sipush 200, 3) := by decide +kernel
theorem d_Mo_init_67 : decode b_Mo_init 67 = .ok (.newarray .int, 2) := by decide +kernel
theorem d_Mo_init_69 : decode b_Mo_init 69 = .ok (.putfield 31, 3) := by decide +kernel
theorem d_Mo_init_72 : decode b_Mo_init 72 = .ok (.aload_n 0, 1) := by decide +kernel
theorem d_Mo_init_73 : decode b_Mo_init 73 = .ok (.bipush 61, 2) := by decide +kernel
theorem d_Mo_init_75 : decode b_Mo_init 75 = .ok (.newarray .boolean, 2) := by decide +kernel
theorem d_Mo_init_77 : decode b_Mo_init 77 = .ok (.putfield 34, 3) := by decide +kernel
theorem d_Mo_init_80 : decode b_Mo_init 80 = .ok (.return_, 1) := by decide +kernel
theorem d_Mo_isTime_0 : decode b_Mo_isTime 0 = .ok (.iload_n 0, 1) := by decide +kernel
theorem d_Mo_isTime_1 : decode b_Mo_isTime 1 = .ok (.ifCond .lt 13, 3) := by decide +kernel
theorem d_Mo_isTime_4 : decode b_Mo_isTime 4 = .ok (.iload_n 0, 1) := by decide +kernel
theorem d_Mo_isTime_5 : decode b_Mo_isTime 5 = .ok (.ldc 42, 2) := by decide +kernel
theorem d_Mo_isTime_7 : decode b_Mo_isTime 7 = .ok (.if_icmp .gt 7, 3) := by decide +kernel
theorem d_Mo_isTime_10 : decode b_Mo_isTime 10 = .ok (.iconst 1, 1) := by decide +kernel
theorem d_Mo_isTime_11 : decode b_Mo_isTime 11 = .ok (.goto 4, 3) := by decide +kernel
theorem d_Mo_isTime_14 : decode b_Mo_isTime 14 = .ok (.iconst 0, 1) := by decide +kernel
theorem d_Mo_isTime_15 : decode b_Mo_isTime 15 = .ok (.ireturn, 1) := by decide +kernel
theorem d_Mo_isPerson_0 : decode b_Mo_isPerson 0 = .ok (.iload_n 0, 1) := by decide +kernel
theorem d_Mo_isPerson_1 : decode b_Mo_isPerson 1 = .ok (.ifCond .lt 13, 3) := by decide +kernel
theorem d_Mo_isPerson_4 : decode b_Mo_isPerson 4 = .ok (.iload_n 0, 1) := by decide +kernel
theorem d_Mo_isPerson_5 : decode b_Mo_isPerson 5 = .ok (.bipush 40, 2) := by decide +kernel
theorem d_Mo_isPerson_7 : decode b_Mo_isPerson 7 = .ok (.if_icmp .ge 7, 3) := by decide +kernel
theorem d_Mo_isPerson_10 : decode b_Mo_isPerson 10 = .ok (.iconst 1, 1) := by decide +kernel
theorem d_Mo_isPerson_11 : decode b_Mo_isPerson 11 = .ok (.goto 4, 3) := by decide +kernel
theorem d_Mo_isPerson_14 : decode b_Mo_isPerson 14 = .ok (.iconst 0, 1) := by decide +kernel
theorem d_Mo_isPerson_15 : decode b_Mo_isPerson 15 = .ok (.ireturn, 1) := by decide +kernel
theorem d_Mo_isThing_0 : decode b_Mo_isThing 0 = .ok (.iload_n 1, 1) := by decide +kernel
theorem d_Mo_isThing_1 : decode b_Mo_isThing 1 = .ok (.ifCond .lt 15, 3) := by decide +kernel
theorem d_Mo_isThing_4 : decode b_Mo_isThing 4 = .ok (.iload_n 1, 1) := by decide +kernel
theorem d_Mo_isThing_5 : decode b_Mo_isThing 5 = .ok (.aload_n 0, 1) := by decide +kernel
theorem d_Mo_isThing_6 : decode b_Mo_isThing 6 = .ok (.getfield 43, 3) := by decide +kernel
theorem d_Mo_isThing_9 : decode b_Mo_isThing 9 = .ok (.if_icmp .ge 7, 3) := by decide +kernel
theorem d_Mo_isThing_12 : decode b_Mo_isThing 12 = .ok (.iconst 1, 1) := by decide +kernel
theorem d_Mo_isThing_13 : decode b_Mo_isThing 13 = .ok (.goto 4, 3) := by decide +kernel
theorem d_Mo_isThing_16 : decode b_Mo_isThing 16 = .ok (.iconst 0, 1) := by decide +kernel
theorem d_Mo_isThing_17 : decode b_Mo_isThing 17 = .ok (.ireturn, 1) := by decide +kernel
theorem d_Mo_isBooking_0 : decode b_Mo_isBooking 0 = .ok (.iload_n 1, 1) := by decide +kernel
theorem d_Mo_isBooking_1 : decode b_Mo_isBooking 1 = .ok (.ifCond .le 15, 3) := by decide +kernel
theorem d_Mo_isBooking_4 : decode b_Mo_isBooking 4 = .ok (.iload_n 1, 1) := by decide +kernel
theorem d_Mo_isBooking_5 : decode b_Mo_isBooking 5 = .ok (.aload_n 0, 1) := by decide +kernel
theorem d_Mo_isBooking_6 : decode b_Mo_isBooking 6 = .ok (.getfield 46, 3) := by decide +kernel
theorem d_Mo_isBooking_9 : decode b_Mo_isBooking 9 = .ok (.if_icmp .gt 7, 3) := by decide +kernel
theorem d_Mo_isBooking_12 : decode b_Mo_isBooking 12 = .ok (.iconst 1, 1) := by decide +kernel
theorem d_Mo_isBooking_13 : decode b_Mo_isBooking 13 = .ok (.goto 4, 3) := by decide +kernel
theorem d_Mo_isBooking_16 : decode b_Mo_isBooking 16 = .ok (.iconst 0, 1) := by decide +kernel
theorem d_Mo_isBooking_17 : decode b_Mo_isBooking 17 = .ok (.ireturn, 1) := by decide +kernel
theorem d_Mo_lives_0 : decode b_Mo_lives 0 = .ok (.aload_n 0, 1) := by decide +kernel
theorem d_Mo_lives_1 : decode b_Mo_lives 1 = .ok (.getfield 19, 3) := by decide +kernel
theorem d_Mo_lives_4 : decode b_Mo_lives 4 = .ok (.bipush 6, 2) := by decide +kernel
theorem d_Mo_lives_6 : decode b_Mo_lives 6 = .ok (.iload_n 1, 1) := by decide +kernel
theorem d_Mo_lives_7 : decode b_Mo_lives 7 = .ok (.imul, 1) := by decide +kernel
theorem d_Mo_lives_8 : decode b_Mo_lives 8 = .ok (.iconst 4, 1) := by decide +kernel
theorem d_Mo_lives_9 : decode b_Mo_lives 9 = .ok (.iadd, 1) := by decide +kernel
theorem d_Mo_lives_10 : decode b_Mo_lives 10 = .ok (.iaload, 1) := by decide +kernel
theorem d_Mo_lives_11 : decode b_Mo_lives 11 = .ok (.iconst 2, 1) := by decide +kernel
theorem d_Mo_lives_12 : decode b_Mo_lives 12 = .ok (.if_icmp .ge 7, 3) := by decide +kernel
theorem d_Mo_lives_15 : decode b_Mo_lives 15 = .ok (.iconst 1, 1) := by decide +kernel
theorem d_Mo_lives_16 : decode b_Mo_lives 16 = .ok (.goto 4, 3) := by decide +kernel
theorem d_Mo_lives_19 : decode b_Mo_lives 19 = .ok (.iconst 0, 1) := by decide +kernel
theorem d_Mo_lives_20 : decode b_Mo_lives 20 = .ok (.ireturn, 1) := by decide +kernel
theorem d_Mo_thing_0 : decode b_Mo_thing 0 = .ok (.aload_n 0, 1) := by decide +kernel
theorem d_Mo_thing_1 : decode b_Mo_thing 1 = .ok (.iconst 0, 1) := by decide +kernel
theorem d_Mo_thing_2 : decode b_Mo_thing 2 = .ok (.putfield 38, 3) := by decide +kernel
theorem d_Mo_thing_5 : decode b_Mo_thing 5 = .ok (.iload_n 1, 1) := by decide +kernel
theorem d_Mo_thing_6 : decode b_Mo_thing 6 = .ok (.ifCond .lt 58, 3) := by decide +kernel
theorem d_Mo_thing_9 : decode b_Mo_thing 9 = .ok (.iload_n 1, 1) := by decide +kernel
theorem d_Mo_thing_10 : decode b_Mo_thing 10 = .ok (.iconst 3, 1) := by decide +kernel
theorem d_Mo_thing_11 : decode b_Mo_thing 11 = .ok (.if_icmp .gt 53, 3) := by decide +kernel
theorem d_Mo_thing_14 : decode b_Mo_thing 14 = .ok (.iload_n 2, 1) := by decide +kernel
theorem d_Mo_thing_15 : decode b_Mo_thing 15 = .ok (.iconst 1, 1) := by decide +kernel
theorem d_Mo_thing_16 : decode b_Mo_thing 16 = .ok (.if_icmp .lt 48, 3) := by decide +kernel
theorem d_Mo_thing_19 : decode b_Mo_thing 19 = .ok (.iload_n 3, 1) := by decide +kernel
theorem d_Mo_thing_20 : decode b_Mo_thing 20 = .ok (.sipush 1440, 3) := by decide +kernel
theorem d_Mo_thing_23 : decode b_Mo_thing 23 = .ok (.if_icmp .gt 41, 3) := by decide +kernel
theorem d_Mo_thing_26 : decode b_Mo_thing 26 = .ok (.iload_n 2, 1) := by decide +kernel
theorem d_Mo_thing_27 : decode b_Mo_thing 27 = .ok (.iload_n 3, 1) := by decide +kernel
theorem d_Mo_thing_28 : decode b_Mo_thing 28 = .ok (.if_icmp .gt 36, 3) := by decide +kernel
theorem d_Mo_thing_31 : decode b_Mo_thing 31 = .ok (.iload 4, 2) := by decide +kernel
theorem d_Mo_thing_33 : decode b_Mo_thing 33 = .ok (.ifCond .lt 31, 3) := by decide +kernel
theorem d_Mo_thing_36 : decode b_Mo_thing 36 = .ok (.iload 4, 2) := by decide +kernel
theorem d_Mo_thing_38 : decode b_Mo_thing 38 = .ok (.ldc 49, 2) := by decide +kernel
theorem d_Mo_thing_40 : decode b_Mo_thing 40 = .ok (.if_icmp .gt 24, 3) := by decide +kernel
theorem d_Mo_thing_43 : decode b_Mo_thing 43 = .ok (.iload 5, 2) := by decide +kernel
theorem d_Mo_thing_45 : decode b_Mo_thing 45 = .ok (.ifCond .lt 19, 3) := by decide +kernel
theorem d_Mo_thing_48 : decode b_Mo_thing 48 = .ok (.iload 5, 2) := by decide +kernel
theorem d_Mo_thing_50 : decode b_Mo_thing 50 = .ok (.bipush 120, 2) := by decide +kernel
theorem d_Mo_thing_52 : decode b_Mo_thing 52 = .ok (.if_icmp .gt 12, 3) := by decide +kernel
theorem d_Mo_thing_55 : decode b_Mo_thing 55 = .ok (.aload_n 0, 1) := by decide +kernel
theorem d_Mo_thing_56 : decode b_Mo_thing 56 = .ok (.getfield 43, 3) := by decide +kernel
theorem d_Mo_thing_59 : decode b_Mo_thing 59 = .ok (.bipush 30, 2) := by decide +kernel
theorem d_Mo_thing_61 : decode b_Mo_thing 61 = .ok (.if_icmp .ne 5, 3) := by decide +kernel
theorem d_Mo_thing_64 : decode b_Mo_thing 64 = .ok (.iconst (-1), 1) := by decide +kernel
theorem d_Mo_thing_65 : decode b_Mo_thing 65 = .ok (.ireturn, 1) := by decide +kernel
theorem d_Mo_thing_66 : decode b_Mo_thing 66 = .ok (.iconst 5, 1) := by decide +kernel
theorem d_Mo_thing_67 : decode b_Mo_thing 67 = .ok (.aload_n 0, 1) := by decide +kernel
theorem d_Mo_thing_68 : decode b_Mo_thing 68 = .ok (.getfield 43, 3) := by decide +kernel
theorem d_Mo_thing_71 : decode b_Mo_thing 71 = .ok (.imul, 1) := by decide +kernel
theorem d_Mo_thing_72 : decode b_Mo_thing 72 = .ok (.istore 6, 2) := by decide +kernel
theorem d_Mo_thing_74 : decode b_Mo_thing 74 = .ok (.aload_n 0, 1) := by decide +kernel
theorem d_Mo_thing_75 : decode b_Mo_thing 75 = .ok (.getfield 16, 3) := by decide +kernel
theorem d_Mo_thing_78 : decode b_Mo_thing 78 = .ok (.iload 6, 2) := by decide +kernel
theorem d_Mo_thing_80 : decode b_Mo_thing 80 = .ok (.iload_n 1, 1) := by decide +kernel
theorem d_Mo_thing_81 : decode b_Mo_thing 81 = .ok (.iastore, 1) := by decide +kernel
theorem d_Mo_thing_82 : decode b_Mo_thing 82 = .ok (.aload_n 0, 1) := by decide +kernel
theorem d_Mo_thing_83 : decode b_Mo_thing 83 = .ok (.getfield 16, 3) := by decide +kernel
theorem d_Mo_thing_86 : decode b_Mo_thing 86 = .ok (.iload 6, 2) := by decide +kernel
theorem d_Mo_thing_88 : decode b_Mo_thing 88 = .ok (.iconst 1, 1) := by decide +kernel
theorem d_Mo_thing_89 : decode b_Mo_thing 89 = .ok (.iadd, 1) := by decide +kernel
theorem d_Mo_thing_90 : decode b_Mo_thing 90 = .ok (.iload_n 2, 1) := by decide +kernel
theorem d_Mo_thing_91 : decode b_Mo_thing 91 = .ok (.iastore, 1) := by decide +kernel
theorem d_Mo_thing_92 : decode b_Mo_thing 92 = .ok (.aload_n 0, 1) := by decide +kernel
theorem d_Mo_thing_93 : decode b_Mo_thing 93 = .ok (.getfield 16, 3) := by decide +kernel
theorem d_Mo_thing_96 : decode b_Mo_thing 96 = .ok (.iload 6, 2) := by decide +kernel
theorem d_Mo_thing_98 : decode b_Mo_thing 98 = .ok (.iconst 2, 1) := by decide +kernel
theorem d_Mo_thing_99 : decode b_Mo_thing 99 = .ok (.iadd, 1) := by decide +kernel
theorem d_Mo_thing_100 : decode b_Mo_thing 100 = .ok (.iload_n 3, 1) := by decide +kernel
theorem d_Mo_thing_101 : decode b_Mo_thing 101 = .ok (.iastore, 1) := by decide +kernel
theorem d_Mo_thing_102 : decode b_Mo_thing 102 = .ok (.aload_n 0, 1) := by decide +kernel
theorem d_Mo_thing_103 : decode b_Mo_thing 103 = .ok (.getfield 16, 3) := by decide +kernel
theorem d_Mo_thing_106 : decode b_Mo_thing 106 = .ok (.iload 6, 2) := by decide +kernel
theorem d_Mo_thing_108 : decode b_Mo_thing 108 = .ok (.iconst 3, 1) := by decide +kernel
theorem d_Mo_thing_109 : decode b_Mo_thing 109 = .ok (.iadd, 1) := by decide +kernel
theorem d_Mo_thing_110 : decode b_Mo_thing 110 = .ok (.iload 4, 2) := by decide +kernel
theorem d_Mo_thing_112 : decode b_Mo_thing 112 = .ok (.iastore, 1) := by decide +kernel
theorem d_Mo_thing_113 : decode b_Mo_thing 113 = .ok (.aload_n 0, 1) := by decide +kernel
theorem d_Mo_thing_114 : decode b_Mo_thing 114 = .ok (.getfield 16, 3) := by decide +kernel
theorem d_Mo_thing_117 : decode b_Mo_thing 117 = .ok (.iload 6, 2) := by decide +kernel
theorem d_Mo_thing_119 : decode b_Mo_thing 119 = .ok (.iconst 4, 1) := by decide +kernel
theorem d_Mo_thing_120 : decode b_Mo_thing 120 = .ok (.iadd, 1) := by decide +kernel
theorem d_Mo_thing_121 : decode b_Mo_thing 121 = .ok (.iload 5, 2) := by decide +kernel
theorem d_Mo_thing_123 : decode b_Mo_thing 123 = .ok (.iastore, 1) := by decide +kernel
theorem d_Mo_thing_124 : decode b_Mo_thing 124 = .ok (.aload_n 0, 1) := by decide +kernel
theorem d_Mo_thing_125 : decode b_Mo_thing 125 = .ok (.dup, 1) := by decide +kernel
theorem d_Mo_thing_126 : decode b_Mo_thing 126 = .ok (.getfield 43, 3) := by decide +kernel
theorem d_Mo_thing_129 : decode b_Mo_thing 129 = .ok (.iconst 1, 1) := by decide +kernel
theorem d_Mo_thing_130 : decode b_Mo_thing 130 = .ok (.iadd, 1) := by decide +kernel
theorem d_Mo_thing_131 : decode b_Mo_thing 131 = .ok (.putfield 43, 3) := by decide +kernel
theorem d_Mo_thing_134 : decode b_Mo_thing 134 = .ok (.aload_n 0, 1) := by decide +kernel
theorem d_Mo_thing_135 : decode b_Mo_thing 135 = .ok (.getfield 43, 3) := by decide +kernel
theorem d_Mo_thing_138 : decode b_Mo_thing 138 = .ok (.iconst 1, 1) := by decide +kernel
theorem d_Mo_thing_139 : decode b_Mo_thing 139 = .ok (.isub, 1) := by decide +kernel
theorem d_Mo_thing_140 : decode b_Mo_thing 140 = .ok (.ireturn, 1) := by decide +kernel
theorem d_Mo_hours_0 : decode b_Mo_hours 0 = .ok (.aload_n 0, 1) := by decide +kernel
theorem d_Mo_hours_1 : decode b_Mo_hours 1 = .ok (.iconst 0, 1) := by decide +kernel
theorem d_Mo_hours_2 : decode b_Mo_hours 2 = .ok (.putfield 38, 3) := by decide +kernel
theorem d_Mo_hours_5 : decode b_Mo_hours 5 = .ok (.iload_n 3, 1) := by decide +kernel
theorem d_Mo_hours_6 : decode b_Mo_hours 6 = .ok (.ifCond .lt 17, 3) := by decide +kernel
theorem d_Mo_hours_9 : decode b_Mo_hours 9 = .ok (.iload_n 3, 1) := by decide +kernel
theorem d_Mo_hours_10 : decode b_Mo_hours 10 = .ok (.iload 4, 2) := by decide +kernel
theorem d_Mo_hours_12 : decode b_Mo_hours 12 = .ok (.if_icmp .ge 11, 3) := by decide +kernel
theorem d_Mo_hours_15 : decode b_Mo_hours 15 = .ok (.iload 4, 2) := by decide +kernel
theorem d_Mo_hours_17 : decode b_Mo_hours 17 = .ok (.sipush 1440, 3) := by decide +kernel
theorem d_Mo_hours_20 : decode b_Mo_hours 20 = .ok (.if_icmp .le 12, 3) := by decide +kernel
theorem d_Mo_hours_23 : decode b_Mo_hours 23 = .ok (.iload_n 3, 1) := by decide +kernel
theorem d_Mo_hours_24 : decode b_Mo_hours 24 = .ok (.ifCond .ne 12, 3) := by decide +kernel
theorem d_Mo_hours_27 : decode b_Mo_hours 27 = .ok (.iload 4, 2) := by decide +kernel
theorem d_Mo_hours_29 : decode b_Mo_hours 29 = .ok (.ifCond .ne 7, 3) := by decide +kernel
theorem d_Mo_hours_32 : decode b_Mo_hours 32 = .ok (.iconst 1, 1) := by decide +kernel
theorem d_Mo_hours_33 : decode b_Mo_hours 33 = .ok (.goto 4, 3) := by decide +kernel
theorem d_Mo_hours_36 : decode b_Mo_hours 36 = .ok (.iconst 0, 1) := by decide +kernel
theorem d_Mo_hours_37 : decode b_Mo_hours 37 = .ok (.istore 5, 2) := by decide +kernel
theorem d_Mo_hours_39 : decode b_Mo_hours 39 = .ok (.iload_n 1, 1) := by decide +kernel
theorem d_Mo_hours_40 : decode b_Mo_hours 40 = .ok (.ifCond .lt 23, 3) := by decide +kernel
theorem d_Mo_hours_43 : decode b_Mo_hours 43 = .ok (.iload_n 1, 1) := by decide +kernel
theorem d_Mo_hours_44 : decode b_Mo_hours 44 = .ok (.iconst 3, 1) := by decide +kernel
theorem d_Mo_hours_45 : decode b_Mo_hours 45 = .ok (.if_icmp .gt 18, 3) := by decide +kernel
theorem d_Mo_hours_48 : decode b_Mo_hours 48 = .ok (.iload_n 2, 1) := by decide +kernel
theorem d_Mo_hours_49 : decode b_Mo_hours 49 = .ok (.ifCond .lt 14, 3) := by decide +kernel
theorem d_Mo_hours_52 : decode b_Mo_hours 52 = .ok (.iload_n 2, 1) := by decide +kernel
theorem d_Mo_hours_53 : decode b_Mo_hours 53 = .ok (.bipush 6, 2) := by decide +kernel
theorem d_Mo_hours_55 : decode b_Mo_hours 55 = .ok (.if_icmp .gt 8, 3) := by decide +kernel
theorem d_Mo_hours_58 : decode b_Mo_hours 58 = .ok (.iload 5, 2) := by decide +kernel
theorem d_Mo_hours_60 : decode b_Mo_hours 60 = .ok (.ifCond .ne 5, 3) := by decide +kernel
theorem d_Mo_hours_63 : decode b_Mo_hours 63 = .ok (.iconst 0, 1) := by decide +kernel
theorem d_Mo_hours_64 : decode b_Mo_hours 64 = .ok (.ireturn, 1) := by decide +kernel
theorem d_Mo_hours_65 : decode b_Mo_hours 65 = .ok (.aload_n 0, 1) := by decide +kernel
theorem d_Mo_hours_66 : decode b_Mo_hours 66 = .ok (.getfield 7, 3) := by decide +kernel
theorem d_Mo_hours_69 : decode b_Mo_hours 69 = .ok (.bipush 14, 2) := by decide +kernel
theorem d_Mo_hours_71 : decode b_Mo_hours 71 = .ok (.iload_n 1, 1) := by decide +kernel
theorem d_Mo_hours_72 : decode b_Mo_hours 72 = .ok (.imul, 1) := by decide +kernel
theorem d_Mo_hours_73 : decode b_Mo_hours 73 = .ok (.iconst 2, 1) := by decide +kernel
theorem d_Mo_hours_74 : decode b_Mo_hours 74 = .ok (.iload_n 2, 1) := by decide +kernel
theorem d_Mo_hours_75 : decode b_Mo_hours 75 = .ok (.imul, 1) := by decide +kernel
theorem d_Mo_hours_76 : decode b_Mo_hours 76 = .ok (.iadd, 1) := by decide +kernel
theorem d_Mo_hours_77 : decode b_Mo_hours 77 = .ok (.iload_n 3, 1) := by decide +kernel
theorem d_Mo_hours_78 : decode b_Mo_hours 78 = .ok (.iastore, 1) := by decide +kernel
theorem d_Mo_hours_79 : decode b_Mo_hours 79 = .ok (.aload_n 0, 1) := by decide +kernel
theorem d_Mo_hours_80 : decode b_Mo_hours 80 = .ok (.getfield 7, 3) := by decide +kernel
theorem d_Mo_hours_83 : decode b_Mo_hours 83 = .ok (.bipush 14, 2) := by decide +kernel
theorem d_Mo_hours_85 : decode b_Mo_hours 85 = .ok (.iload_n 1, 1) := by decide +kernel
theorem d_Mo_hours_86 : decode b_Mo_hours 86 = .ok (.imul, 1) := by decide +kernel
theorem d_Mo_hours_87 : decode b_Mo_hours 87 = .ok (.iconst 2, 1) := by decide +kernel
theorem d_Mo_hours_88 : decode b_Mo_hours 88 = .ok (.iload_n 2, 1) := by decide +kernel
theorem d_Mo_hours_89 : decode b_Mo_hours 89 = .ok (.imul, 1) := by decide +kernel
theorem d_Mo_hours_90 : decode b_Mo_hours 90 = .ok (.iadd, 1) := by decide +kernel
theorem d_Mo_hours_91 : decode b_Mo_hours 91 = .ok (.iconst 1, 1) := by decide +kernel
theorem d_Mo_hours_92 : decode b_Mo_hours 92 = .ok (.iadd, 1) := by decide +kernel
theorem d_Mo_hours_93 : decode b_Mo_hours 93 = .ok (.iload 4, 2) := by decide +kernel
theorem d_Mo_hours_95 : decode b_Mo_hours 95 = .ok (.iastore, 1) := by decide +kernel
theorem d_Mo_hours_96 : decode b_Mo_hours 96 = .ok (.iconst 1, 1) := by decide +kernel
theorem d_Mo_hours_97 : decode b_Mo_hours 97 = .ok (.ireturn, 1) := by decide +kernel
theorem d_Mo_isHoliday_0 : decode b_Mo_isHoliday 0 = .ok (.iconst 0, 1) := by decide +kernel
theorem d_Mo_isHoliday_1 : decode b_Mo_isHoliday 1 = .ok (.istore_n 2, 1) := by decide +kernel
theorem d_Mo_isHoliday_2 : decode b_Mo_isHoliday 2 = .ok (.iconst 0, 1) := by decide +kernel
theorem d_Mo_isHoliday_3 : decode b_Mo_isHoliday 3 = .ok (.istore_n 3, 1) := by decide +kernel
theorem d_Mo_isHoliday_4 : decode b_Mo_isHoliday 4 = .ok (.iload_n 3, 1) := by decide +kernel
theorem d_Mo_isHoliday_5 : decode b_Mo_isHoliday 5 = .ok (.aload_n 0, 1) := by decide +kernel
theorem d_Mo_isHoliday_6 : decode b_Mo_isHoliday 6 = .ok (.getfield 50, 3) := by decide +kernel
theorem d_Mo_isHoliday_9 : decode b_Mo_isHoliday 9 = .ok (.if_icmp .ge 29, 3) := by decide +kernel
theorem d_Mo_isHoliday_12 : decode b_Mo_isHoliday 12 = .ok (.iload_n 2, 1) := by decide +kernel
theorem d_Mo_isHoliday_13 : decode b_Mo_isHoliday 13 = .ok (.ifCond .ne 13, 3) := by decide +kernel
theorem d_Mo_isHoliday_16 : decode b_Mo_isHoliday 16 = .ok (.aload_n 0, 1) := by decide +kernel
theorem d_Mo_isHoliday_17 : decode b_Mo_isHoliday 17 = .ok (.getfield 13, 3) := by decide +kernel
theorem d_Mo_isHoliday_20 : decode b_Mo_isHoliday 20 = .ok (.iload_n 3, 1) := by decide +kernel
theorem d_Mo_isHoliday_21 : decode b_Mo_isHoliday 21 = .ok (.iaload, 1) := by decide +kernel
theorem d_Mo_isHoliday_22 : decode b_Mo_isHoliday 22 = .ok (.iload_n 1, 1) := by decide +kernel
theorem d_Mo_isHoliday_23 : decode b_Mo_isHoliday 23 = .ok (.if_icmp .ne 7, 3) := by decide +kernel
theorem d_Mo_isHoliday_26 : decode b_Mo_isHoliday 26 = .ok (.iconst 1, 1) := by decide +kernel
theorem d_Mo_isHoliday_27 : decode b_Mo_isHoliday 27 = .ok (.goto 4, 3) := by decide +kernel
theorem d_Mo_isHoliday_30 : decode b_Mo_isHoliday 30 = .ok (.iconst 0, 1) := by decide +kernel
theorem d_Mo_isHoliday_31 : decode b_Mo_isHoliday 31 = .ok (.istore_n 2, 1) := by decide +kernel
theorem d_Mo_isHoliday_32 : decode b_Mo_isHoliday 32 = .ok (.iinc 3 1, 3) := by decide +kernel
theorem d_Mo_isHoliday_35 : decode b_Mo_isHoliday 35 = .ok (.goto (-31), 3) := by decide +kernel
theorem d_Mo_isHoliday_38 : decode b_Mo_isHoliday 38 = .ok (.iload_n 2, 1) := by decide +kernel
theorem d_Mo_isHoliday_39 : decode b_Mo_isHoliday 39 = .ok (.ireturn, 1) := by decide +kernel
theorem d_Mo_holiday_0 : decode b_Mo_holiday 0 = .ok (.aload_n 0, 1) := by decide +kernel
theorem d_Mo_holiday_1 : decode b_Mo_holiday 1 = .ok (.iconst 0, 1) := by decide +kernel
theorem d_Mo_holiday_2 : decode b_Mo_holiday 2 = .ok (.putfield 38, 3) := by decide +kernel
theorem d_Mo_holiday_5 : decode b_Mo_holiday 5 = .ok (.iload_n 1, 1) := by decide +kernel
theorem d_Mo_holiday_6 : decode b_Mo_holiday 6 = .ok (.ifCond .lt 27, 3) := by decide +kernel
theorem d_Mo_holiday_9 : decode b_Mo_holiday 9 = .ok (.iload_n 1, 1) := by decide +kernel
theorem d_Mo_holiday_10 : decode b_Mo_holiday 10 = .ok (.sipush 694, 3) := by decide +kernel
theorem d_Mo_holiday_13 : decode b_Mo_holiday 13 = .ok (.if_icmp .gt 20, 3) := by decide +kernel
theorem d_Mo_holiday_16 : decode b_Mo_holiday 16 = .ok (.aload_n 0, 1) := by decide +kernel
theorem d_Mo_holiday_17 : decode b_Mo_holiday 17 = .ok (.iload_n 1, 1) := by decide +kernel
theorem d_Mo_holiday_18 : decode b_Mo_holiday 18 = .ok (.invokevirtual 53, 3) := by decide +kernel
theorem d_Mo_holiday_21 : decode b_Mo_holiday 21 = .ok (.ifCond .ne 12, 3) := by decide +kernel
theorem d_Mo_holiday_24 : decode b_Mo_holiday 24 = .ok (.aload_n 0, 1) := by decide +kernel
theorem d_Mo_holiday_25 : decode b_Mo_holiday 25 = .ok (.getfield 50, 3) := by decide +kernel
theorem d_Mo_holiday_28 : decode b_Mo_holiday 28 = .ok (.bipush 40, 2) := by decide +kernel
theorem d_Mo_holiday_30 : decode b_Mo_holiday 30 = .ok (.if_icmp .ne 5, 3) := by decide +kernel
theorem d_Mo_holiday_33 : decode b_Mo_holiday 33 = .ok (.iconst 0, 1) := by decide +kernel
theorem d_Mo_holiday_34 : decode b_Mo_holiday 34 = .ok (.ireturn, 1) := by decide +kernel
theorem d_Mo_holiday_35 : decode b_Mo_holiday 35 = .ok (.aload_n 0, 1) := by decide +kernel
theorem d_Mo_holiday_36 : decode b_Mo_holiday 36 = .ok (.getfield 13, 3) := by decide +kernel
theorem d_Mo_holiday_39 : decode b_Mo_holiday 39 = .ok (.aload_n 0, 1) := by decide +kernel
theorem d_Mo_holiday_40 : decode b_Mo_holiday 40 = .ok (.getfield 50, 3) := by decide +kernel
theorem d_Mo_holiday_43 : decode b_Mo_holiday 43 = .ok (.iload_n 1, 1) := by decide +kernel
theorem d_Mo_holiday_44 : decode b_Mo_holiday 44 = .ok (.iastore, 1) := by decide +kernel
theorem d_Mo_holiday_45 : decode b_Mo_holiday 45 = .ok (.aload_n 0, 1) := by decide +kernel
theorem d_Mo_holiday_46 : decode b_Mo_holiday 46 = .ok (.dup, 1) := by decide +kernel
theorem d_Mo_holiday_47 : decode b_Mo_holiday 47 = .ok (.getfield 50, 3) := by decide +kernel
theorem d_Mo_holiday_50 : decode b_Mo_holiday 50 = .ok (.iconst 1, 1) := by decide +kernel
theorem d_Mo_holiday_51 : decode b_Mo_holiday 51 = .ok (.iadd, 1) := by decide +kernel
theorem d_Mo_holiday_52 : decode b_Mo_holiday 52 = .ok (.putfield 50, 3) := by decide +kernel
theorem d_Mo_holiday_55 : decode b_Mo_holiday 55 = .ok (.aload_n 0, 1) := by decide +kernel
theorem d_Mo_holiday_56 : decode b_Mo_holiday 56 = .ok (.getfield 50, 3) := by decide +kernel
theorem d_Mo_holiday_59 : decode b_Mo_holiday 59 = .ok (.ireturn, 1) := by decide +kernel
theorem d_Mo_meets_0 : decode b_Mo_meets 0 = .ok (.aload_n 0, 1) := by decide +kernel
theorem d_Mo_meets_1 : decode b_Mo_meets 1 = .ok (.getfield 19, 3) := by decide +kernel
theorem d_Mo_meets_4 : decode b_Mo_meets 4 = .ok (.bipush 6, 2) := by decide +kernel
theorem d_Mo_meets_6 : decode b_Mo_meets 6 = .ok (.iload_n 1, 1) := by decide +kernel
theorem d_Mo_meets_7 : decode b_Mo_meets 7 = .ok (.imul, 1) := by decide +kernel
theorem d_Mo_meets_8 : decode b_Mo_meets 8 = .ok (.iconst 1, 1) := by decide +kernel
theorem d_Mo_meets_9 : decode b_Mo_meets 9 = .ok (.iadd, 1) := by decide +kernel
theorem d_Mo_meets_10 : decode b_Mo_meets 10 = .ok (.iaload, 1) := by decide +kernel
theorem d_Mo_meets_11 : decode b_Mo_meets 11 = .ok (.iload_n 2, 1) := by decide +kernel
theorem d_Mo_meets_12 : decode b_Mo_meets 12 = .ok (.if_icmp .ne 38, 3) := by decide +kernel
theorem d_Mo_meets_15 : decode b_Mo_meets 15 = .ok (.aload_n 0, 1) := by decide +kernel
theorem d_Mo_meets_16 : decode b_Mo_meets 16 = .ok (.getfield 19, 3) := by decide +kernel
theorem d_Mo_meets_19 : decode b_Mo_meets 19 = .ok (.bipush 6, 2) := by decide +kernel
theorem d_Mo_meets_21 : decode b_Mo_meets 21 = .ok (.iload_n 1, 1) := by decide +kernel
theorem d_Mo_meets_22 : decode b_Mo_meets 22 = .ok (.imul, 1) := by decide +kernel
theorem d_Mo_meets_23 : decode b_Mo_meets 23 = .ok (.iconst 2, 1) := by decide +kernel
theorem d_Mo_meets_24 : decode b_Mo_meets 24 = .ok (.iadd, 1) := by decide +kernel
theorem d_Mo_meets_25 : decode b_Mo_meets 25 = .ok (.iaload, 1) := by decide +kernel
theorem d_Mo_meets_26 : decode b_Mo_meets 26 = .ok (.iload 4, 2) := by decide +kernel
theorem d_Mo_meets_28 : decode b_Mo_meets 28 = .ok (.if_icmp .ge 22, 3) := by decide +kernel
theorem d_Mo_meets_31 : decode b_Mo_meets 31 = .ok (.iload_n 3, 1) := by decide +kernel
theorem d_Mo_meets_32 : decode b_Mo_meets 32 = .ok (.aload_n 0, 1) := by decide +kernel
theorem d_Mo_meets_33 : decode b_Mo_meets 33 = .ok (.getfield 19, 3) := by decide +kernel
theorem d_Mo_meets_36 : decode b_Mo_meets 36 = .ok (.bipush 6, 2) := by decide +kernel
theorem d_Mo_meets_38 : decode b_Mo_meets 38 = .ok (.iload_n 1, 1) := by decide +kernel
theorem d_Mo_meets_39 : decode b_Mo_meets 39 = .ok (.imul, 1) := by decide +kernel
theorem d_Mo_meets_40 : decode b_Mo_meets 40 = .ok (.iconst 3, 1) := by decide +kernel
theorem d_Mo_meets_41 : decode b_Mo_meets 41 = .ok (.iadd, 1) := by decide +kernel
theorem d_Mo_meets_42 : decode b_Mo_meets 42 = .ok (.iaload, 1) := by decide +kernel
theorem d_Mo_meets_43 : decode b_Mo_meets 43 = .ok (.if_icmp .ge 7, 3) := by decide +kernel
theorem d_Mo_meets_46 : decode b_Mo_meets 46 = .ok (.iconst 1, 1) := by decide +kernel
theorem d_Mo_meets_47 : decode b_Mo_meets 47 = .ok (.goto 4, 3) := by decide +kernel
theorem d_Mo_meets_50 : decode b_Mo_meets 50 = .ok (.iconst 0, 1) := by decide +kernel
theorem d_Mo_meets_51 : decode b_Mo_meets 51 = .ok (.ireturn, 1) := by decide +kernel
theorem d_Mo_clashes_0 : decode b_Mo_clashes 0 = .ok (.iconst 0, 1) := by decide +kernel
theorem d_Mo_clashes_1 : decode b_Mo_clashes 1 = .ok (.istore 5, 2) := by decide +kernel
theorem d_Mo_clashes_3 : decode b_Mo_clashes 3 = .ok (.iconst 1, 1) := by decide +kernel
theorem d_Mo_clashes_4 : decode b_Mo_clashes 4 = .ok (.istore 6, 2) := by decide +kernel
theorem d_Mo_clashes_6 : decode b_Mo_clashes 6 = .ok (.iload 6, 2) := by decide +kernel
theorem d_Mo_clashes_8 : decode b_Mo_clashes 8 = .ok (.aload_n 0, 1) := by decide +kernel
theorem d_Mo_clashes_9 : decode b_Mo_clashes 9 = .ok (.getfield 46, 3) := by decide +kernel
theorem d_Mo_clashes_12 : decode b_Mo_clashes 12 = .ok (.if_icmp .gt 49, 3) := by decide +kernel
theorem d_Mo_clashes_15 : decode b_Mo_clashes 15 = .ok (.iload 5, 2) := by decide +kernel
theorem d_Mo_clashes_17 : decode b_Mo_clashes 17 = .ok (.ifCond .ne 31, 3) := by decide +kernel
theorem d_Mo_clashes_20 : decode b_Mo_clashes 20 = .ok (.iload 6, 2) := by decide +kernel
theorem d_Mo_clashes_22 : decode b_Mo_clashes 22 = .ok (.iload 4, 2) := by decide +kernel
theorem d_Mo_clashes_24 : decode b_Mo_clashes 24 = .ok (.if_icmp .eq 28, 3) := by decide +kernel
theorem d_Mo_clashes_27 : decode b_Mo_clashes 27 = .ok (.aload_n 0, 1) := by decide +kernel
theorem d_Mo_clashes_28 : decode b_Mo_clashes 28 = .ok (.iload 6, 2) := by decide +kernel
theorem d_Mo_clashes_30 : decode b_Mo_clashes 30 = .ok (.invokevirtual 57, 3) := by decide +kernel
theorem d_Mo_clashes_33 : decode b_Mo_clashes 33 = .ok (.ifCond .eq 19, 3) := by decide +kernel
theorem d_Mo_clashes_36 : decode b_Mo_clashes 36 = .ok (.aload_n 0, 1) := by decide +kernel
theorem d_Mo_clashes_37 : decode b_Mo_clashes 37 = .ok (.iload 6, 2) := by decide +kernel
theorem d_Mo_clashes_39 : decode b_Mo_clashes 39 = .ok (.iload_n 1, 1) := by decide +kernel
theorem d_Mo_clashes_40 : decode b_Mo_clashes 40 = .ok (.iload_n 2, 1) := by decide +kernel
theorem d_Mo_clashes_41 : decode b_Mo_clashes 41 = .ok (.iload_n 3, 1) := by decide +kernel
theorem d_Mo_clashes_42 : decode b_Mo_clashes 42 = .ok (.invokevirtual 60, 3) := by decide +kernel
theorem d_Mo_clashes_45 : decode b_Mo_clashes 45 = .ok (.ifCond .eq 7, 3) := by decide +kernel
theorem d_Mo_clashes_48 : decode b_Mo_clashes 48 = .ok (.iconst 1, 1) := by decide +kernel
theorem d_Mo_clashes_49 : decode b_Mo_clashes 49 = .ok (.goto 4, 3) := by decide +kernel
theorem d_Mo_clashes_52 : decode b_Mo_clashes 52 = .ok (.iconst 0, 1) := by decide +kernel
theorem d_Mo_clashes_53 : decode b_Mo_clashes 53 = .ok (.istore 5, 2) := by decide +kernel
theorem d_Mo_clashes_55 : decode b_Mo_clashes 55 = .ok (.iinc 6 1, 3) := by decide +kernel
theorem d_Mo_clashes_58 : decode b_Mo_clashes 58 = .ok (.goto (-52), 3) := by decide +kernel
theorem d_Mo_clashes_61 : decode b_Mo_clashes 61 = .ok (.iload 5, 2) := by decide +kernel
theorem d_Mo_clashes_63 : decode b_Mo_clashes 63 = .ok (.ireturn, 1) := by decide +kernel
theorem d_Mo_living_0 : decode b_Mo_living 0 = .ok (.iconst 0, 1) := by decide +kernel
theorem d_Mo_living_1 : decode b_Mo_living 1 = .ok (.istore_n 2, 1) := by decide +kernel
theorem d_Mo_living_2 : decode b_Mo_living 2 = .ok (.iconst 1, 1) := by decide +kernel
theorem d_Mo_living_3 : decode b_Mo_living 3 = .ok (.istore_n 3, 1) := by decide +kernel
theorem d_Mo_living_4 : decode b_Mo_living 4 = .ok (.iload_n 3, 1) := by decide +kernel
theorem d_Mo_living_5 : decode b_Mo_living 5 = .ok (.aload_n 0, 1) := by decide +kernel
theorem d_Mo_living_6 : decode b_Mo_living 6 = .ok (.getfield 46, 3) := by decide +kernel
theorem d_Mo_living_9 : decode b_Mo_living 9 = .ok (.if_icmp .gt 38, 3) := by decide +kernel
theorem d_Mo_living_12 : decode b_Mo_living 12 = .ok (.iload_n 2, 1) := by decide +kernel
theorem d_Mo_living_13 : decode b_Mo_living 13 = .ok (.aload_n 0, 1) := by decide +kernel
theorem d_Mo_living_14 : decode b_Mo_living 14 = .ok (.iload_n 3, 1) := by decide +kernel
theorem d_Mo_living_15 : decode b_Mo_living 15 = .ok (.invokevirtual 57, 3) := by decide +kernel
theorem d_Mo_living_18 : decode b_Mo_living 18 = .ok (.ifCond .eq 20, 3) := by decide +kernel
theorem d_Mo_living_21 : decode b_Mo_living 21 = .ok (.aload_n 0, 1) := by decide +kernel
theorem d_Mo_living_22 : decode b_Mo_living 22 = .ok (.getfield 19, 3) := by decide +kernel
theorem d_Mo_living_25 : decode b_Mo_living 25 = .ok (.bipush 6, 2) := by decide +kernel
theorem d_Mo_living_27 : decode b_Mo_living 27 = .ok (.iload_n 3, 1) := by decide +kernel
theorem d_Mo_living_28 : decode b_Mo_living 28 = .ok (.imul, 1) := by decide +kernel
theorem d_Mo_living_29 : decode b_Mo_living 29 = .ok (.iaload, 1) := by decide +kernel
theorem d_Mo_living_30 : decode b_Mo_living 30 = .ok (.iload_n 1, 1) := by decide +kernel
theorem d_Mo_living_31 : decode b_Mo_living 31 = .ok (.if_icmp .ne 7, 3) := by decide +kernel
theorem d_Mo_living_34 : decode b_Mo_living 34 = .ok (.iconst 1, 1) := by decide +kernel
theorem d_Mo_living_35 : decode b_Mo_living 35 = .ok (.goto 4, 3) := by decide +kernel
theorem d_Mo_living_38 : decode b_Mo_living 38 = .ok (.iconst 0, 1) := by decide +kernel
theorem d_Mo_living_39 : decode b_Mo_living 39 = .ok (.iadd, 1) := by decide +kernel
theorem d_Mo_living_40 : decode b_Mo_living 40 = .ok (.istore_n 2, 1) := by decide +kernel
theorem d_Mo_living_41 : decode b_Mo_living 41 = .ok (.iinc 3 1, 3) := by decide +kernel
theorem d_Mo_living_44 : decode b_Mo_living 44 = .ok (.goto (-40), 3) := by decide +kernel
theorem d_Mo_living_47 : decode b_Mo_living 47 = .ok (.iload_n 2, 1) := by decide +kernel
theorem d_Mo_living_48 : decode b_Mo_living 48 = .ok (.ireturn, 1) := by decide +kernel
theorem d_Mo_against_0 : decode b_Mo_against 0 = .ok (.iload_n 3, 1) := by decide +kernel
theorem d_Mo_against_1 : decode b_Mo_against 1 = .ok (.invokestatic 64, 3) := by decide +kernel
theorem d_Mo_against_4 : decode b_Mo_against 4 = .ok (.ifCond .eq 17, 3) := by decide +kernel
theorem d_Mo_against_7 : decode b_Mo_against 7 = .ok (.iload 4, 2) := by decide +kernel
theorem d_Mo_against_9 : decode b_Mo_against 9 = .ok (.invokestatic 64, 3) := by decide +kernel
theorem d_Mo_against_12 : decode b_Mo_against 12 = .ok (.ifCond .eq 9, 3) := by decide +kernel
theorem d_Mo_against_15 : decode b_Mo_against 15 = .ok (.iload_n 3, 1) := by decide +kernel
theorem d_Mo_against_16 : decode b_Mo_against 16 = .ok (.iload 4, 2) := by decide +kernel
theorem d_Mo_against_18 : decode b_Mo_against 18 = .ok (.if_icmp .lt 5, 3) := by decide +kernel
theorem d_Mo_against_21 : decode b_Mo_against 21 = .ok (.iconst (-1), 1) := by decide +kernel
theorem d_Mo_against_22 : decode b_Mo_against 22 = .ok (.ireturn, 1) := by decide +kernel
theorem d_Mo_against_23 : decode b_Mo_against 23 = .ok (.iconst 5, 1) := by decide +kernel
theorem d_Mo_against_24 : decode b_Mo_against 24 = .ok (.iload_n 2, 1) := by decide +kernel
theorem d_Mo_against_25 : decode b_Mo_against 25 = .ok (.imul, 1) := by decide +kernel
theorem d_Mo_against_26 : decode b_Mo_against 26 = .ok (.istore 6, 2) := by decide +kernel
