theorem d_Br_init_0 : decode b_Br_init 0 = .ok (.aload_n 0, 1) := by decide +kernel
theorem d_Br_init_1 : decode b_Br_init 1 = .ok (.invokespecial 3, 3) := by decide +kernel
theorem d_Br_init_4 : decode b_Br_init 4 = .ok (.aload_n 0, 1) := by decide +kernel
theorem d_Br_init_5 : decode b_Br_init 5 = .ok (.new 9, 3) := by decide +kernel
theorem d_Br_init_8 : decode b_Br_init 8 = .ok (.dup, 1) := by decide +kernel
theorem d_Br_init_9 : decode b_Br_init 9 = .ok (.invokespecial 11, 3) := by decide +kernel
theorem d_Br_init_12 : decode b_Br_init 12 = .ok (.putfield 12, 3) := by decide +kernel
theorem d_Br_init_15 : decode b_Br_init 15 = .ok (.aload_n 0, 1) := by decide +kernel
theorem d_Br_init_16 : decode b_Br_init 16 = .ok (.new 16, 3) := by decide +kernel
theorem d_Br_init_19 : decode b_Br_init 19 = .ok (.dup, 1) := by decide +kernel
theorem d_Br_init_20 : decode b_Br_init 20 = .ok (.invokespecial 18, 3) := by decide +kernel
theorem d_Br_init_23 : decode b_Br_init 23 = .ok (.putfield 19, 3) := by decide +kernel
theorem d_Br_init_26 : decode b_Br_init 26 = .ok (.aload_n 0, 1) := by decide +kernel
theorem d_Br_init_27 : decode b_Br_init 27 = .ok (.new 23, 3) := by decide +kernel
theorem d_Br_init_30 : decode b_Br_init 30 = .ok (.dup, 1) := by decide +kernel
theorem d_Br_init_31 : decode b_Br_init 31 = .ok (.invokespecial 25, 3) := by decide +kernel
theorem d_Br_init_34 : decode b_Br_init 34 = .ok (.putfield 26, 3) := by decide +kernel
theorem d_Br_init_37 : decode b_Br_init 37 = .ok (.aload_n 0, 1) := by decide +kernel
theorem d_Br_init_38 : decode b_Br_init 38 = .ok (.new 30, 3) := by decide +kernel
theorem d_Br_init_41 : decode b_Br_init 41 = .ok (.dup, 1) := by decide +kernel
theorem d_Br_init_42 : decode b_Br_init 42 = .ok (.invokespecial 32, 3) := by decide +kernel
theorem d_Br_init_45 : decode b_Br_init 45 = .ok (.putfield 33, 3) := by decide +kernel
theorem d_Br_init_48 : decode b_Br_init 48 = .ok (.aload_n 0, 1) := by decide +kernel
theorem d_Br_init_49 : decode b_Br_init 49 = .ok (.new 37, 3) := by decide +kernel
theorem d_Br_init_52 : decode b_Br_init 52 = .ok (.dup, 1) := by decide +kernel
theorem d_Br_init_53 : decode b_Br_init 53 = .ok (.invokespecial 39, 3) := by decide +kernel
theorem d_Br_init_56 : decode b_Br_init 56 = .ok (.putfield 40, 3) := by decide +kernel
theorem d_Br_init_59 : decode b_Br_init 59 = .ok (.aload_n 0, 1) := by decide +kernel
theorem d_Br_init_60 : decode b_Br_init 60 = .ok (.iconst 0, 1) := by decide +kernel
theorem d_Br_init_61 : decode b_Br_init 61 = .ok (.putfield 44, 3) := by decide +kernel
theorem d_Br_init_64 : decode b_Br_init 64 = .ok (.return_, 1) := by decide +kernel
theorem d_Br_isWithin_0 : decode b_Br_isWithin 0 = .ok (.iload_n 1, 1) := by decide +kernel
theorem d_Br_isWithin_1 : decode b_Br_isWithin 1 = .ok (.iload_n 0, 1) := by decide +kernel
theorem d_Br_isWithin_2 : decode b_Br_isWithin 2 = .ok (.if_icmp .gt 12, 3) := by decide +kernel
theorem d_Br_isWithin_5 : decode b_Br_isWithin 5 = .ok (.iload_n 0, 1) := by decide +kernel
theorem d_Br_isWithin_6 : decode b_Br_isWithin 6 = .ok (.iload_n 2, 1) := by decide +kernel
theorem d_Br_isWithin_7 : decode b_Br_isWithin 7 = .ok (.if_icmp .gt 7, 3) := by decide +kernel
theorem d_Br_isWithin_10 : decode b_Br_isWithin 10 = .ok (.iconst 1, 1) := by decide +kernel
theorem d_Br_isWithin_11 : decode b_Br_isWithin 11 = .ok (.goto 4, 3) := by decide +kernel
theorem d_Br_isWithin_14 : decode b_Br_isWithin 14 = .ok (.iconst 0, 1) := by decide +kernel
theorem d_Br_isWithin_15 : decode b_Br_isWithin 15 = .ok (.ireturn, 1) := by decide +kernel
theorem d_Br_isPlace_0 : decode b_Br_isPlace 0 = .ok (.iload_n 0, 1) := by decide +kernel
theorem d_Br_isPlace_1 : decode b_Br_isPlace 1 = .ok (.iconst 0, 1) := by decide +kernel
theorem d_Br_isPlace_2 : decode b_Br_isPlace 2 = .ok (.iconst 3, 1) := by decide +kernel
theorem d_Br_isPlace_3 : decode b_Br_isPlace 3 = .ok (.invokestatic 49, 3) := by decide +kernel
theorem d_Br_isPlace_6 : decode b_Br_isPlace 6 = .ok (.ireturn, 1) := by decide +kernel
theorem d_Br_thing_0 : decode b_Br_thing 0 = .ok (.iconst 1, 1) := by decide +kernel
theorem d_Br_thing_1 : decode b_Br_thing 1 = .ok (.iload_n 2, 1) := by decide +kernel
theorem d_Br_thing_2 : decode b_Br_thing 2 = .ok (.if_icmp .gt 19, 3) := by decide +kernel
theorem d_Br_thing_5 : decode b_Br_thing 5 = .ok (.iload_n 2, 1) := by decide +kernel
theorem d_Br_thing_6 : decode b_Br_thing 6 = .ok (.iload_n 3, 1) := by decide +kernel
theorem d_Br_thing_7 : decode b_Br_thing 7 = .ok (.if_icmp .gt 14, 3) := by decide +kernel
theorem d_Br_thing_10 : decode b_Br_thing 10 = .ok (.iload_n 3, 1) := by decide +kernel
theorem d_Br_thing_11 : decode b_Br_thing 11 = .ok (.sipush 1440, 3) := by decide +kernel
theorem d_Br_thing_14 : decode b_Br_thing 14 = .ok (.if_icmp .gt 7, 3) := by decide +kernel
theorem d_Br_thing_17 : decode b_Br_thing 17 = .ok (.iconst 1, 1) := by decide +kernel
theorem d_Br_thing_18 : decode b_Br_thing 18 = .ok (.goto 4, 3) := by decide +kernel
theorem d_Br_thing_21 : decode b_Br_thing 21 = .ok (.iconst 0, 1) := by decide +kernel
theorem d_Br_thing_22 : decode b_Br_thing 22 = .ok (.istore 6, 2) := by decide +kernel
theorem d_Br_thing_24 : decode b_Br_thing 24 = .ok (.iload 4, 2) := by decide +kernel
theorem d_Br_thing_26 : decode b_Br_thing 26 = .ok (.iconst 0, 1) := by decide +kernel
theorem d_Br_thing_27 : decode b_Br_thing 27 = .ok (.ldc 48, 2) := by decide +kernel
theorem d_Br_thing_29 : decode b_Br_thing 29 = .ok (.invokestatic 49, 3) := by decide +kernel
theorem d_Br_thing_32 : decode b_Br_thing 32 = .ok (.ifCond .eq 18, 3) := by decide +kernel
theorem d_Br_thing_35 : decode b_Br_thing 35 = .ok (.iload 5, 2) := by decide +kernel
theorem d_Br_thing_37 : decode b_Br_thing 37 = .ok (.iconst 0, 1) := by decide +kernel
theorem d_Br_thing_38 : decode b_Br_thing 38 = .ok (.bipush 120, 2) := by decide +kernel
theorem d_Br_thing_40 : decode b_Br_thing 40 = .ok (.invokestatic 49, 3) := by decide +kernel
theorem d_Br_thing_43 : decode b_Br_thing 43 = .ok (.ifCond .eq 7, 3) := by decide +kernel
theorem d_Br_thing_46 : decode b_Br_thing 46 = .ok (.iconst 1, 1) := by decide +kernel
theorem d_Br_thing_47 : decode b_Br_thing 47 = .ok (.goto 4, 3) := by decide +kernel
theorem d_Br_thing_50 : decode b_Br_thing 50 = .ok (.iconst 0, 1) := by decide +kernel
theorem d_Br_thing_51 : decode b_Br_thing 51 = .ok (.istore 7, 2) := by decide +kernel
theorem d_Br_thing_53 : decode b_Br_thing 53 = .ok (.iload_n 1, 1) := by decide +kernel
theorem d_Br_thing_54 : decode b_Br_thing 54 = .ok (.invokestatic 53, 3) := by decide +kernel
theorem d_Br_thing_57 : decode b_Br_thing 57 = .ok (.ifCond .eq 23, 3) := by decide +kernel
theorem d_Br_thing_60 : decode b_Br_thing 60 = .ok (.iload 6, 2) := by decide +kernel
theorem d_Br_thing_62 : decode b_Br_thing 62 = .ok (.ifCond .eq 18, 3) := by decide +kernel
theorem d_Br_thing_65 : decode b_Br_thing 65 = .ok (.iload 7, 2) := by decide +kernel
theorem d_Br_thing_67 : decode b_Br_thing 67 = .ok (.ifCond .eq 13, 3) := by decide +kernel
theorem d_Br_thing_70 : decode b_Br_thing 70 = .ok (.aload_n 0, 1) := by decide +kernel
theorem d_Br_thing_71 : decode b_Br_thing 71 = .ok (.getfield 19, 3) := by decide +kernel
theorem d_Br_thing_74 : decode b_Br_thing 74 = .ok (.invokevirtual 57, 3) := by decide +kernel
theorem d_Br_thing_77 : decode b_Br_thing 77 = .ok (.ifCond .eq 5, 3) := by decide +kernel
theorem d_Br_thing_80 : decode b_Br_thing 80 = .ok (.iconst (-1), 1) := by decide +kernel
theorem d_Br_thing_81 : decode b_Br_thing 81 = .ok (.ireturn, 1) := by decide +kernel
theorem d_Br_thing_82 : decode b_Br_thing 82 = .ok (.aload_n 0, 1) := by decide +kernel
theorem d_Br_thing_83 : decode b_Br_thing 83 = .ok (.getfield 19, 3) := by decide +kernel
theorem d_Br_thing_86 : decode b_Br_thing 86 = .ok (.iload_n 1, 1) := by decide +kernel
theorem d_Br_thing_87 : decode b_Br_thing 87 = .ok (.iload_n 2, 1) := by decide +kernel
theorem d_Br_thing_88 : decode b_Br_thing 88 = .ok (.iload_n 3, 1) := by decide +kernel
theorem d_Br_thing_89 : decode b_Br_thing 89 = .ok (.iload 4, 2) := by decide +kernel
theorem d_Br_thing_91 : decode b_Br_thing 91 = .ok (.iload 5, 2) := by decide +kernel
theorem d_Br_thing_93 : decode b_Br_thing 93 = .ok (.invokevirtual 61, 3) := by decide +kernel
theorem d_Br_thing_96 : decode b_Br_thing 96 = .ok (.ireturn, 1) := by decide +kernel
theorem d_Br_hours_0 : decode b_Br_hours 0 = .ok (.iload_n 3, 1) := by decide +kernel
theorem d_Br_hours_1 : decode b_Br_hours 1 = .ok (.ifCond .ne 12, 3) := by decide +kernel
theorem d_Br_hours_4 : decode b_Br_hours 4 = .ok (.iload 4, 2) := by decide +kernel
theorem d_Br_hours_6 : decode b_Br_hours 6 = .ok (.ifCond .ne 7, 3) := by decide +kernel
theorem d_Br_hours_9 : decode b_Br_hours 9 = .ok (.iconst 1, 1) := by decide +kernel
theorem d_Br_hours_10 : decode b_Br_hours 10 = .ok (.goto 4, 3) := by decide +kernel
theorem d_Br_hours_13 : decode b_Br_hours 13 = .ok (.iconst 0, 1) := by decide +kernel
theorem d_Br_hours_14 : decode b_Br_hours 14 = .ok (.istore 5, 2) := by decide +kernel
theorem d_Br_hours_16 : decode b_Br_hours 16 = .ok (.iconst 0, 1) := by decide +kernel
theorem d_Br_hours_17 : decode b_Br_hours 17 = .ok (.iload_n 3, 1) := by decide +kernel
theorem d_Br_hours_18 : decode b_Br_hours 18 = .ok (.if_icmp .gt 21, 3) := by decide +kernel
theorem d_Br_hours_21 : decode b_Br_hours 21 = .ok (.iload_n 3, 1) := by decide +kernel
theorem d_Br_hours_22 : decode b_Br_hours 22 = .ok (.iload 4, 2) := by decide +kernel
theorem d_Br_hours_24 : decode b_Br_hours 24 = .ok (.if_icmp .ge 15, 3) := by decide +kernel
theorem d_Br_hours_27 : decode b_Br_hours 27 = .ok (.iload 4, 2) := by decide +kernel
theorem d_Br_hours_29 : decode b_Br_hours 29 = .ok (.sipush 1440, 3) := by decide +kernel
theorem d_Br_hours_32 : decode b_Br_hours 32 = .ok (.if_icmp .gt 7, 3) := by decide +kernel
theorem d_Br_hours_35 : decode b_Br_hours 35 = .ok (.iconst 1, 1) := by decide +kernel
theorem d_Br_hours_36 : decode b_Br_hours 36 = .ok (.goto 4, 3) := by decide +kernel
theorem d_Br_hours_39 : decode b_Br_hours 39 = .ok (.iconst 0, 1) := by decide +kernel
theorem d_Br_hours_40 : decode b_Br_hours 40 = .ok (.istore 6, 2) := by decide +kernel
theorem d_Br_hours_42 : decode b_Br_hours 42 = .ok (.iload_n 1, 1) := by decide +kernel
theorem d_Br_hours_43 : decode b_Br_hours 43 = .ok (.invokestatic 53, 3) := by decide +kernel
theorem d_Br_hours_46 : decode b_Br_hours 46 = .ok (.ifCond .eq 23, 3) := by decide +kernel
theorem d_Br_hours_49 : decode b_Br_hours 49 = .ok (.iload_n 2, 1) := by decide +kernel
theorem d_Br_hours_50 : decode b_Br_hours 50 = .ok (.iconst 0, 1) := by decide +kernel
theorem d_Br_hours_51 : decode b_Br_hours 51 = .ok (.bipush 6, 2) := by decide +kernel
theorem d_Br_hours_53 : decode b_Br_hours 53 = .ok (.invokestatic 49, 3) := by decide +kernel
theorem d_Br_hours_56 : decode b_Br_hours 56 = .ok (.ifCond .eq 13, 3) := by decide +kernel
theorem d_Br_hours_59 : decode b_Br_hours 59 = .ok (.iload 5, 2) := by decide +kernel
theorem d_Br_hours_61 : decode b_Br_hours 61 = .ok (.ifCond .ne 10, 3) := by decide +kernel
theorem d_Br_hours_64 : decode b_Br_hours 64 = .ok (.iload 6, 2) := by decide +kernel
theorem d_Br_hours_66 : decode b_Br_hours 66 = .ok (.ifCond .ne 5, 3) := by decide +kernel
theorem d_Br_hours_69 : decode b_Br_hours 69 = .ok (.iconst 0, 1) := by decide +kernel
theorem d_Br_hours_70 : decode b_Br_hours 70 = .ok (.ireturn, 1) := by decide +kernel
theorem d_Br_hours_71 : decode b_Br_hours 71 = .ok (.aload_n 0, 1) := by decide +kernel
theorem d_Br_hours_72 : decode b_Br_hours 72 = .ok (.getfield 12, 3) := by decide +kernel
theorem d_Br_hours_75 : decode b_Br_hours 75 = .ok (.iload_n 1, 1) := by decide +kernel
theorem d_Br_hours_76 : decode b_Br_hours 76 = .ok (.iload_n 2, 1) := by decide +kernel
theorem d_Br_hours_77 : decode b_Br_hours 77 = .ok (.iload_n 3, 1) := by decide +kernel
theorem d_Br_hours_78 : decode b_Br_hours 78 = .ok (.iload 4, 2) := by decide +kernel
theorem d_Br_hours_80 : decode b_Br_hours 80 = .ok (.invokevirtual 65, 3) := by decide +kernel
theorem d_Br_hours_83 : decode b_Br_hours 83 = .ok (.iconst 1, 1) := by decide +kernel
theorem d_Br_hours_84 : decode b_Br_hours 84 = .ok (.ireturn, 1) := by decide +kernel
theorem d_Br_holiday_0 : decode b_Br_holiday 0 = .ok (.iload_n 1, 1) := by decide +kernel
theorem d_Br_holiday_1 : decode b_Br_holiday 1 = .ok (.iconst 0, 1) := by decide +kernel
theorem d_Br_holiday_2 : decode b_Br_holiday 2 = .ok (.sipush 694, 3) := by decide +kernel
theorem d_Br_holiday_5 : decode b_Br_holiday 5 = .ok (.invokestatic 49, 3) := by decide +kernel
theorem d_Br_holiday_8 : decode b_Br_holiday 8 = .ok (.ifCond .eq 24, 3) := by decide +kernel
theorem d_Br_holiday_11 : decode b_Br_holiday 11 = .ok (.aload_n 0, 1) := by decide +kernel
theorem d_Br_holiday_12 : decode b_Br_holiday 12 = .ok (.getfield 12, 3) := by decide +kernel
theorem d_Br_holiday_15 : decode b_Br_holiday 15 = .ok (.iload_n 1, 1) := by decide +kernel
theorem d_Br_holiday_16 : decode b_Br_holiday 16 = .ok (.invokevirtual 69, 3) := by decide +kernel
theorem d_Br_holiday_19 : decode b_Br_holiday 19 = .ok (.ifCond .ne 13, 3) := by decide +kernel
theorem d_Br_holiday_22 : decode b_Br_holiday 22 = .ok (.aload_n 0, 1) := by decide +kernel
theorem d_Br_holiday_23 : decode b_Br_holiday 23 = .ok (.getfield 12, 3) := by decide +kernel
theorem d_Br_holiday_26 : decode b_Br_holiday 26 = .ok (.invokevirtual 72, 3) := by decide +kernel
theorem d_Br_holiday_29 : decode b_Br_holiday 29 = .ok (.ifCond .eq 5, 3) := by decide +kernel
theorem d_Br_holiday_32 : decode b_Br_holiday 32 = .ok (.iconst 0, 1) := by decide +kernel
theorem d_Br_holiday_33 : decode b_Br_holiday 33 = .ok (.ireturn, 1) := by decide +kernel
theorem d_Br_holiday_34 : decode b_Br_holiday 34 = .ok (.aload_n 0, 1) := by decide +kernel
theorem d_Br_holiday_35 : decode b_Br_holiday 35 = .ok (.getfield 12, 3) := by decide +kernel
theorem d_Br_holiday_38 : decode b_Br_holiday 38 = .ok (.iload_n 1, 1) := by decide +kernel
theorem d_Br_holiday_39 : decode b_Br_holiday 39 = .ok (.invokevirtual 73, 3) := by decide +kernel
theorem d_Br_holiday_42 : decode b_Br_holiday 42 = .ok (.ireturn, 1) := by decide +kernel
theorem d_Br_isPerson_0 : decode b_Br_isPerson 0 = .ok (.iload_n 0, 1) := by decide +kernel
theorem d_Br_isPerson_1 : decode b_Br_isPerson 1 = .ok (.iconst 0, 1) := by decide +kernel
theorem d_Br_isPerson_2 : decode b_Br_isPerson 2 = .ok (.bipush 39, 2) := by decide +kernel
theorem d_Br_isPerson_4 : decode b_Br_isPerson 4 = .ok (.invokestatic 49, 3) := by decide +kernel
theorem d_Br_isPerson_7 : decode b_Br_isPerson 7 = .ok (.ireturn, 1) := by decide +kernel
theorem d_Br_isTime_0 : decode b_Br_isTime 0 = .ok (.iload_n 0, 1) := by decide +kernel
theorem d_Br_isTime_1 : decode b_Br_isTime 1 = .ok (.iconst 0, 1) := by decide +kernel
theorem d_Br_isTime_2 : decode b_Br_isTime 2 = .ok (.ldc 145, 2) := by decide +kernel
theorem d_Br_isTime_4 : decode b_Br_isTime 4 = .ok (.invokestatic 49, 3) := by decide +kernel
theorem d_Br_isTime_7 : decode b_Br_isTime 7 = .ok (.ireturn, 1) := by decide +kernel
theorem d_Br_refusalOf_0 : decode b_Br_refusalOf 0 = .ok (.iload_n 3, 1) := by decide +kernel
theorem d_Br_refusalOf_1 : decode b_Br_refusalOf 1 = .ok (.invokestatic 184, 3) := by decide +kernel
theorem d_Br_refusalOf_4 : decode b_Br_refusalOf 4 = .ok (.ifCond .eq 17, 3) := by decide +kernel
theorem d_Br_refusalOf_7 : decode b_Br_refusalOf 7 = .ok (.iload 4, 2) := by decide +kernel
theorem d_Br_refusalOf_9 : decode b_Br_refusalOf 9 = .ok (.invokestatic 184, 3) := by decide +kernel
theorem d_Br_refusalOf_12 : decode b_Br_refusalOf 12 = .ok (.ifCond .eq 9, 3) := by decide +kernel
theorem d_Br_refusalOf_15 : decode b_Br_refusalOf 15 = .ok (.iload_n 3, 1) := by decide +kernel
theorem d_Br_refusalOf_16 : decode b_Br_refusalOf 16 = .ok (.iload 4, 2) := by decide +kernel
theorem d_Br_refusalOf_18 : decode b_Br_refusalOf 18 = .ok (.if_icmp .lt 5, 3) := by decide +kernel
theorem d_Br_refusalOf_21 : decode b_Br_refusalOf 21 = .ok (.iconst (-1), 1) := by decide +kernel
theorem d_Br_refusalOf_22 : decode b_Br_refusalOf 22 = .ok (.ireturn, 1) := by decide +kernel
theorem d_Br_refusalOf_23 : decode b_Br_refusalOf 23 = .ok (.aload_n 0, 1) := by decide +kernel
theorem d_Br_refusalOf_24 : decode b_Br_refusalOf 24 = .ok (.getfield 19, 3) := by decide +kernel
theorem d_Br_refusalOf_27 : decode b_Br_refusalOf 27 = .ok (.iload_n 2, 1) := by decide +kernel
theorem d_Br_refusalOf_28 : decode b_Br_refusalOf 28 = .ok (.iload 4, 2) := by decide +kernel
theorem d_Br_refusalOf_30 : decode b_Br_refusalOf 30 = .ok (.iload_n 3, 1) := by decide +kernel
theorem d_Br_refusalOf_31 : decode b_Br_refusalOf 31 = .ok (.isub, 1) := by decide +kernel
theorem d_Br_refusalOf_32 : decode b_Br_refusalOf 32 = .ok (.invokevirtual 187, 3) := by decide +kernel
theorem d_Br_refusalOf_35 : decode b_Br_refusalOf 35 = .ok (.ifCond .ne 6, 3) := by decide +kernel
theorem d_Br_refusalOf_38 : decode b_Br_refusalOf 38 = .ok (.bipush (-2), 2) := by decide +kernel
theorem d_Br_refusalOf_40 : decode b_Br_refusalOf 40 = .ok (.ireturn, 1) := by decide +kernel
theorem d_Br_refusalOf_41 : decode b_Br_refusalOf 41 = .ok (.iload_n 3, 1) := by decide +kernel
theorem d_Br_refusalOf_42 : decode b_Br_refusalOf 42 = .ok (.aload_n 0, 1) := by decide +kernel
theorem d_Br_refusalOf_43 : decode b_Br_refusalOf 43 = .ok (.getfield 44, 3) := by decide +kernel
theorem d_Br_refusalOf_46 : decode b_Br_refusalOf 46 = .ok (.if_icmp .lt 20, 3) := by decide +kernel
theorem d_Br_refusalOf_49 : decode b_Br_refusalOf 49 = .ok (.iload_n 3, 1) := by decide +kernel
theorem d_Br_refusalOf_50 : decode b_Br_refusalOf 50 = .ok (.aload_n 0, 1) := by decide +kernel
theorem d_Br_refusalOf_51 : decode b_Br_refusalOf 51 = .ok (.getfield 44, 3) := by decide +kernel
theorem d_Br_refusalOf_54 : decode b_Br_refusalOf 54 = .ok (.isub, 1) := by decide +kernel
theorem d_Br_refusalOf_55 : decode b_Br_refusalOf 55 = .ok (.aload_n 0, 1) := by decide +kernel
theorem d_Br_refusalOf_56 : decode b_Br_refusalOf 56 = .ok (.getfield 19, 3) := by decide +kernel
theorem d_Br_refusalOf_59 : decode b_Br_refusalOf 59 = .ok (.iload_n 2, 1) := by decide +kernel
theorem d_Br_refusalOf_60 : decode b_Br_refusalOf 60 = .ok (.invokevirtual 190, 3) := by decide +kernel
theorem d_Br_refusalOf_63 : decode b_Br_refusalOf 63 = .ok (.if_icmp .le 6, 3) := by decide +kernel
theorem d_Br_refusalOf_66 : decode b_Br_refusalOf 66 = .ok (.bipush (-3), 2) := by decide +kernel
theorem d_Br_refusalOf_68 : decode b_Br_refusalOf 68 = .ok (.ireturn, 1) := by decide +kernel
theorem d_Br_refusalOf_69 : decode b_Br_refusalOf 69 = .ok (.aload_n 0, 1) := by decide +kernel
theorem d_Br_refusalOf_70 : decode b_Br_refusalOf 70 = .ok (.getfield 12, 3) := by decide +kernel
theorem d_Br_refusalOf_73 : decode b_Br_refusalOf 73 = .ok (.aload_n 0, 1) := by decide +kernel
theorem d_Br_refusalOf_74 : decode b_Br_refusalOf 74 = .ok (.getfield 19, 3) := by decide +kernel
theorem d_Br_refusalOf_77 : decode b_Br_refusalOf 77 = .ok (.iload_n 2, 1) := by decide +kernel
theorem d_Br_refusalOf_78 : decode b_Br_refusalOf 78 = .ok (.invokevirtual 135, 3) := by decide +kernel
theorem d_Br_refusalOf_81 : decode b_Br_refusalOf 81 = .ok (.iload_n 3, 1) := by decide +kernel
theorem d_Br_refusalOf_82 : decode b_Br_refusalOf 82 = .ok (.iload 4, 2) := by decide +kernel
theorem d_Br_refusalOf_84 : decode b_Br_refusalOf 84 = .ok (.invokevirtual 193, 3) := by decide +kernel
theorem d_Br_refusalOf_87 : decode b_Br_refusalOf 87 = .ok (.ifCond .ne 6, 3) := by decide +kernel
theorem d_Br_refusalOf_90 : decode b_Br_refusalOf 90 = .ok (.bipush (-4), 2) := by decide +kernel
theorem d_Br_refusalOf_92 : decode b_Br_refusalOf 92 = .ok (.ireturn, 1) := by decide +kernel
theorem d_Br_refusalOf_93 : decode b_Br_refusalOf 93 = .ok (.iload 5, 2) := by decide +kernel
theorem d_Br_refusalOf_95 : decode b_Br_refusalOf 95 = .ok (.ifCond .eq 7, 3) := by decide +kernel
theorem d_Br_refusalOf_98 : decode b_Br_refusalOf 98 = .ok (.iconst 1, 1) := by decide +kernel
theorem d_Br_refusalOf_99 : decode b_Br_refusalOf 99 = .ok (.goto 4, 3) := by decide +kernel
theorem d_Br_refusalOf_102 : decode b_Br_refusalOf 102 = .ok (.iconst 0, 1) := by decide +kernel
theorem d_Br_refusalOf_103 : decode b_Br_refusalOf 103 = .ok (.istore 6, 2) := by decide +kernel
theorem d_Br_refusalOf_105 : decode b_Br_refusalOf 105 = .ok (.iload 6, 2) := by decide +kernel
theorem d_Br_refusalOf_107 : decode b_Br_refusalOf 107 = .ok (.ifCond .ne 33, 3) := by decide +kernel
theorem d_Br_refusalOf_110 : decode b_Br_refusalOf 110 = .ok (.aload_n 0, 1) := by decide +kernel
theorem d_Br_refusalOf_111 : decode b_Br_refusalOf 111 = .ok (.getfield 40, 3) := by decide +kernel
theorem d_Br_refusalOf_114 : decode b_Br_refusalOf 114 = .ok (.iload_n 1, 1) := by decide +kernel
theorem d_Br_refusalOf_115 : decode b_Br_refusalOf 115 = .ok (.aload_n 0, 1) := by decide +kernel
theorem d_Br_refusalOf_116 : decode b_Br_refusalOf 116 = .ok (.getfield 44, 3) := by decide +kernel
theorem d_Br_refusalOf_119 : decode b_Br_refusalOf 119 = .ok (.invokevirtual 175, 3) := by decide +kernel
theorem d_Br_refusalOf_122 : decode b_Br_refusalOf 122 = .ok (.ifCond .ne 15, 3) := by decide +kernel
theorem d_Br_refusalOf_125 : decode b_Br_refusalOf 125 = .ok (.aload_n 0, 1) := by decide +kernel
theorem d_Br_refusalOf_126 : decode b_Br_refusalOf 126 = .ok (.getfield 26, 3) := by decide +kernel
theorem d_Br_refusalOf_129 : decode b_Br_refusalOf 129 = .ok (.iload_n 1, 1) := by decide +kernel
theorem d_Br_refusalOf_130 : decode b_Br_refusalOf 130 = .ok (.invokevirtual 196, 3) := by decide +kernel
theorem d_Br_refusalOf_133 : decode b_Br_refusalOf 133 = .ok (.iconst 5, 1) := by decide +kernel
theorem d_Br_refusalOf_134 : decode b_Br_refusalOf 134 = .ok (.if_icmp .lt 6, 3) := by decide +kernel
theorem d_Br_refusalOf_137 : decode b_Br_refusalOf 137 = .ok (.bipush (-5), 2) := by decide +kernel
theorem d_Br_refusalOf_139 : decode b_Br_refusalOf 139 = .ok (.ireturn, 1) := by decide +kernel
theorem d_Br_refusalOf_140 : decode b_Br_refusalOf 140 = .ok (.aload_n 0, 1) := by decide +kernel
theorem d_Br_refusalOf_141 : decode b_Br_refusalOf 141 = .ok (.getfield 26, 3) := by decide +kernel
theorem d_Br_refusalOf_144 : decode b_Br_refusalOf 144 = .ok (.iload_n 2, 1) := by decide +kernel
theorem d_Br_refusalOf_145 : decode b_Br_refusalOf 145 = .ok (.iload_n 3, 1) := by decide +kernel
theorem d_Br_refusalOf_146 : decode b_Br_refusalOf 146 = .ok (.iload 4, 2) := by decide +kernel
theorem d_Br_refusalOf_148 : decode b_Br_refusalOf 148 = .ok (.iload 5, 2) := by decide +kernel
theorem d_Br_refusalOf_150 : decode b_Br_refusalOf 150 = .ok (.invokevirtual 138, 3) := by decide +kernel
theorem d_Br_refusalOf_153 : decode b_Br_refusalOf 153 = .ok (.ifCond .eq 8, 3) := by decide +kernel
theorem d_Br_refusalOf_156 : decode b_Br_refusalOf 156 = .ok (.bipush (-6), 2) := by decide +kernel
theorem d_Br_refusalOf_158 : decode b_Br_refusalOf 158 = .ok (.goto 4, 3) := by decide +kernel
theorem d_Br_refusalOf_161 : decode b_Br_refusalOf 161 = .ok (.iconst 0, 1) := by decide +kernel
theorem d_Br_refusalOf_162 : decode b_Br_refusalOf 162 = .ok (.ireturn, 1) := by decide +kernel
theorem d_Br_tryBooking_0 : decode b_Br_tryBooking 0 = .ok (.aload_n 0, 1) := by decide +kernel
theorem d_Br_tryBooking_1 : decode b_Br_tryBooking 1 = .ok (.getfield 26, 3) := by decide +kernel
theorem d_Br_tryBooking_4 : decode b_Br_tryBooking 4 = .ok (.invokevirtual 134, 3) := by decide +kernel
theorem d_Br_tryBooking_7 : decode b_Br_tryBooking 7 = .ok (.ifCond .eq 5, 3) := by decide +kernel
theorem d_Br_tryBooking_10 : decode b_Br_tryBooking 10 = .ok (.iconst 0, 1) := by decide +kernel
theorem d_Br_tryBooking_11 : decode b_Br_tryBooking 11 = .ok (.ireturn, 1) := by decide +kernel
theorem d_Br_tryBooking_12 : decode b_Br_tryBooking 12 = .ok (.aload_n 0, 1) := by decide +kernel
theorem d_Br_tryBooking_13 : decode b_Br_tryBooking 13 = .ok (.iload_n 1, 1) := by decide +kernel
theorem d_Br_tryBooking_14 : decode b_Br_tryBooking 14 = .ok (.iload_n 2, 1) := by decide +kernel
theorem d_Br_tryBooking_15 : decode b_Br_tryBooking 15 = .ok (.iload_n 3, 1) := by decide +kernel
theorem d_Br_tryBooking_16 : decode b_Br_tryBooking 16 = .ok (.iload 4, 2) := by decide +kernel
theorem d_Br_tryBooking_18 : decode b_Br_tryBooking 18 = .ok (.iconst 0, 1) := by decide +kernel
theorem d_Br_tryBooking_19 : decode b_Br_tryBooking 19 = .ok (.invokevirtual 124, 3) := by decide +kernel
theorem d_Br_tryBooking_22 : decode b_Br_tryBooking 22 = .ok (.istore 5, 2) := by decide +kernel
theorem d_Br_tryBooking_24 : decode b_Br_tryBooking 24 = .ok (.iload 5, 2) := by decide +kernel
theorem d_Br_tryBooking_26 : decode b_Br_tryBooking 26 = .ok (.ifCond .ne 19, 3) := by decide +kernel
theorem d_Br_tryBooking_29 : decode b_Br_tryBooking 29 = .ok (.aload_n 0, 1) := by decide +kernel
theorem d_Br_tryBooking_30 : decode b_Br_tryBooking 30 = .ok (.getfield 26, 3) := by decide +kernel
theorem d_Br_tryBooking_33 : decode b_Br_tryBooking 33 = .ok (.iload_n 1, 1) := by decide +kernel
theorem d_Br_tryBooking_34 : decode b_Br_tryBooking 34 = .ok (.iload_n 2, 1) := by decide +kernel
theorem d_Br_tryBooking_35 : decode b_Br_tryBooking 35 = .ok (.iload_n 3, 1) := by decide +kernel
theorem d_Br_tryBooking_36 : decode b_Br_tryBooking 36 = .ok (.iload 4, 2) := by decide +kernel
theorem d_Br_tryBooking_38 : decode b_Br_tryBooking 38 = .ok (.iconst 0, 1) := by decide +kernel
theorem d_Br_tryBooking_39 : decode b_Br_tryBooking 39 = .ok (.invokevirtual 142, 3) := by decide +kernel
theorem d_Br_tryBooking_42 : decode b_Br_tryBooking 42 = .ok (.goto 5, 3) := by decide +kernel
theorem d_Br_tryBooking_45 : decode b_Br_tryBooking 45 = .ok (.iload 5, 2) := by decide +kernel
theorem d_Br_tryBooking_47 : decode b_Br_tryBooking 47 = .ok (.ireturn, 1) := by decide +kernel
theorem d_Br_book_0 : decode b_Br_book 0 = .ok (.iload_n 1, 1) := by decide +kernel
theorem d_Br_book_1 : decode b_Br_book 1 = .ok (.invokestatic 77, 3) := by decide +kernel
theorem d_Br_book_4 : decode b_Br_book 4 = .ok (.ifCond .eq 14, 3) := by decide +kernel
theorem d_Br_book_7 : decode b_Br_book 7 = .ok (.aload_n 0, 1) := by decide +kernel
theorem d_Br_book_8 : decode b_Br_book 8 = .ok (.getfield 19, 3) := by decide +kernel
theorem d_Br_book_11 : decode b_Br_book 11 = .ok (.iload_n 2, 1) := by decide +kernel
theorem d_Br_book_12 : decode b_Br_book 12 = .ok (.invokevirtual 80, 3) := by decide +kernel
theorem d_Br_book_15 : decode b_Br_book 15 = .ok (.ifCond .ne 5, 3) := by decide +kernel
theorem d_Br_book_18 : decode b_Br_book 18 = .ok (.iconst 0, 1) := by decide +kernel
theorem d_Br_book_19 : decode b_Br_book 19 = .ok (.ireturn, 1) := by decide +kernel
theorem d_Br_book_20 : decode b_Br_book 20 = .ok (.aload_n 0, 1) := by decide +kernel
theorem d_Br_book_21 : decode b_Br_book 21 = .ok (.iload_n 1, 1) := by decide +kernel
theorem d_Br_book_22 : decode b_Br_book 22 = .ok (.iload_n 2, 1) := by decide +kernel
theorem d_Br_book_23 : decode b_Br_book 23 = .ok (.iload_n 3, 1) := by decide +kernel
theorem d_Br_book_24 : decode b_Br_book 24 = .ok (.iload 4, 2) := by decide +kernel
theorem d_Br_book_26 : decode b_Br_book 26 = .ok (.invokevirtual 83, 3) := by decide +kernel
theorem d_Br_book_29 : decode b_Br_book 29 = .ok (.ireturn, 1) := by decide +kernel
theorem d_Br_recurring_0 : decode b_Br_recurring 0 = .ok (.aload_n 0, 1) := by decide +kernel
theorem d_Br_recurring_1 : decode b_Br_recurring 1 = .ok (.getfield 26, 3) := by decide +kernel
theorem d_Br_recurring_4 : decode b_Br_recurring 4 = .ok (.iload_n 1, 1) := by decide +kernel
theorem d_Br_recurring_5 : decode b_Br_recurring 5 = .ok (.invokevirtual 87, 3) := by decide +kernel
theorem d_Br_recurring_8 : decode b_Br_recurring 8 = .ok (.ifCond .eq 14, 3) := by decide +kernel
theorem d_Br_recurring_11 : decode b_Br_recurring 11 = .ok (.aload_n 0, 1) := by decide +kernel
theorem d_Br_recurring_12 : decode b_Br_recurring 12 = .ok (.getfield 26, 3) := by decide +kernel
theorem d_Br_recurring_15 : decode b_Br_recurring 15 = .ok (.iload_n 1, 1) := by decide +kernel
theorem d_Br_recurring_16 : decode b_Br_recurring 16 = .ok (.invokevirtual 88, 3) := by decide +kernel
theorem d_Br_recurring_19 : decode b_Br_recurring 19 = .ok (.ifCond .ne 5, 3) := by decide +kernel
theorem d_Br_recurring_22 : decode b_Br_recurring 22 = .ok (.iconst 0, 1) := by decide +kernel
theorem d_Br_recurring_23 : decode b_Br_recurring 23 = .ok (.ireturn, 1) := by decide +kernel
theorem d_Br_recurring_24 : decode b_Br_recurring 24 = .ok (.iload_n 2, 1) := by decide +kernel
theorem d_Br_recurring_25 : decode b_Br_recurring 25 = .ok (.iconst 1, 1) := by decide +kernel
theorem d_Br_recurring_26 : decode b_Br_recurring 26 = .ok (.bipush 60, 2) := by decide +kernel
theorem d_Br_recurring_28 : decode b_Br_recurring 28 = .ok (.invokestatic 49, 3) := by decide +kernel
theorem d_Br_recurring_31 : decode b_Br_recurring 31 = .ok (.ifCond .eq 13, 3) := by decide +kernel
theorem d_Br_recurring_34 : decode b_Br_recurring 34 = .ok (.iload_n 3, 1) := by decide +kernel
theorem d_Br_recurring_35 : decode b_Br_recurring 35 = .ok (.iconst 1, 1) := by decide +kernel
theorem d_Br_recurring_36 : decode b_Br_recurring 36 = .ok (.bipush 20, 2) := by decide +kernel
theorem d_Br_recurring_38 : decode b_Br_recurring 38 = .ok (.invokestatic 49, 3) := by decide +kernel
theorem d_Br_recurring_41 : decode b_Br_recurring 41 = .ok (.ifCond .ne 5, 3) := by decide +kernel
theorem d_Br_recurring_44 : decode b_Br_recurring 44 = .ok (.iconst 0, 1) := by decide +kernel
theorem d_Br_recurring_45 : decode b_Br_recurring 45 = .ok (.ireturn, 1) := by decide +kernel
theorem d_Br_recurring_46 : decode b_Br_recurring 46 = .ok (.aload_n 0, 1) := by decide +kernel
theorem d_Br_recurring_47 : decode b_Br_recurring 47 = .ok (.getfield 26, 3) := by decide +kernel
theorem d_Br_recurring_50 : decode b_Br_recurring 50 = .ok (.iload_n 1, 1) := by decide +kernel
theorem d_Br_recurring_51 : decode b_Br_recurring 51 = .ok (.invokevirtual 91, 3) := by decide +kernel
theorem d_Br_recurring_54 : decode b_Br_recurring 54 = .ok (.istore 4, 2) := by decide +kernel
theorem d_Br_recurring_56 : decode b_Br_recurring 56 = .ok (.aload_n 0, 1) := by decide +kernel
theorem d_Br_recurring_57 : decode b_Br_recurring 57 = .ok (.getfield 26, 3) := by decide +kernel
theorem d_Br_recurring_60 : decode b_Br_recurring 60 = .ok (.iload_n 1, 1) := by decide +kernel
theorem d_Br_recurring_61 : decode b_Br_recurring 61 = .ok (.invokevirtual 94, 3) := by decide +kernel
theorem d_Br_recurring_64 : decode b_Br_recurring 64 = .ok (.istore 5, 2) := by decide +kernel
theorem d_Br_recurring_66 : decode b_Br_recurring 66 = .ok (.iconst 0, 1) := by decide +kernel
theorem d_Br_recurring_67 : decode b_Br_recurring 67 = .ok (.istore 6, 2) := by decide +kernel
theorem d_Br_recurring_69 : decode b_Br_recurring 69 = .ok (.iconst 1, 1) := by decide +kernel
theorem d_Br_recurring_70 : decode b_Br_recurring 70 = .ok (.istore 7, 2) := by decide +kernel
theorem d_Br_recurring_72 : decode b_Br_recurring 72 = .ok (.iload 7, 2) := by decide +kernel
theorem d_Br_recurring_74 : decode b_Br_recurring 74 = .ok (.iload_n 3, 1) := by decide +kernel
theorem d_Br_recurring_75 : decode b_Br_recurring 75 = .ok (.if_icmp .gt 74, 3) := by decide +kernel
theorem d_Br_recurring_78 : decode b_Br_recurring 78 = .ok (.iload 7, 2) := by decide +kernel
theorem d_Br_recurring_80 : decode b_Br_recurring 80 = .ok (.iload_n 2, 1) := by decide +kernel
theorem d_Br_recurring_81 : decode b_Br_recurring 81 = .ok (.imul, 1) := by decide +kernel
theorem d_Br_recurring_82 : decode b_Br_recurring 82 = .ok (.sipush 1440, 3) := by decide +kernel
theorem d_Br_recurring_85 : decode b_Br_recurring 85 = .ok (.imul, 1) := by decide +kernel
theorem d_Br_recurring_86 : decode b_Br_recurring 86 = .ok (.istore 8, 2) := by decide +kernel
theorem d_Br_recurring_88 : decode b_Br_recurring 88 = .ok (.aload_n 0, 1) := by decide +kernel
theorem d_Br_recurring_89 : decode b_Br_recurring 89 = .ok (.iload 4, 2) := by decide +kernel
theorem d_Br_recurring_91 : decode b_Br_recurring 91 = .ok (.iload 5, 2) := by decide +kernel
theorem d_Br_recurring_93 : decode b_Br_recurring 93 = .ok (.aload_n 0, 1) := by decide +kernel
theorem d_Br_recurring_94 : decode b_Br_recurring 94 = .ok (.getfield 26, 3) := by decide +kernel
theorem d_Br_recurring_97 : decode b_Br_recurring 97 = .ok (.iload_n 1, 1) := by decide +kernel
theorem d_Br_recurring_98 : decode b_Br_recurring 98 = .ok (.invokevirtual 97, 3) := by decide +kernel
theorem d_Br_recurring_101 : decode b_Br_recurring 101 = .ok (.iload 8, 2) := by decide +kernel
theorem d_Br_recurring_103 : decode b_Br_recurring 103 = .ok (.iadd, 1) := by decide +kernel
theorem d_Br_recurring_104 : decode b_Br_recurring 104 = .ok (.aload_n 0, 1) := by decide +kernel
theorem d_Br_recurring_105 : decode b_Br_recurring 105 = .ok (.getfield 26, 3) := by decide +kernel
theorem d_Br_recurring_108 : decode b_Br_recurring 108 = .ok (.iload_n 1, 1) := by decide +kernel
theorem d_Br_recurring_109 : decode b_Br_recurring 109 = .ok (.invokevirtual 100, 3) := by decide +kernel
theorem d_Br_recurring_112 : decode b_Br_recurring 112 = .ok (.iload 8, 2) := by decide +kernel
theorem d_Br_recurring_114 : decode b_Br_recurring 114 = .ok (.iadd, 1) := by decide +kernel
theorem d_Br_recurring_115 : decode b_Br_recurring 115 = .ok (.invokevirtual 83, 3) := by decide +kernel
theorem d_Br_recurring_118 : decode b_Br_recurring 118 = .ok (.istore 9, 2) := by decide +kernel
theorem d_Br_recurring_120 : decode b_Br_recurring 120 = .ok (.iload 9, 2) := by decide +kernel
theorem d_Br_recurring_122 : decode b_Br_recurring 122 = .ok (.ifCond .eq 27, 3) := by decide +kernel
theorem d_Br_recurring_125 : decode b_Br_recurring 125 = .ok (.iload 9, 2) := by decide +kernel
theorem d_Br_recurring_127 : decode b_Br_recurring 127 = .ok (.bipush (-3), 2) := by decide +kernel
theorem d_Br_recurring_129 : decode b_Br_recurring 129 = .ok (.if_icmp .ne 6, 3) := by decide +kernel
theorem d_Br_recurring_132 : decode b_Br_recurring 132 = .ok (.goto 17, 3) := by decide +kernel
theorem d_Br_recurring_135 : decode b_Br_recurring 135 = .ok (.iload 9, 2) := by decide +kernel
theorem d_Br_recurring_137 : decode b_Br_recurring 137 = .ok (.ifCond .le 6, 3) := by decide +kernel
theorem d_Br_recurring_140 : decode b_Br_recurring 140 = .ok (.iinc 6 1, 3) := by decide +kernel
theorem d_Br_recurring_143 : decode b_Br_recurring 143 = .ok (.iinc 7 1, 3) := by decide +kernel
theorem d_Br_recurring_146 : decode b_Br_recurring 146 = .ok (.goto (-74), 3) := by decide +kernel
theorem d_Br_recurring_149 : decode b_Br_recurring 149 = .ok (.iload 6, 2) := by decide +kernel
theorem d_Br_recurring_151 : decode b_Br_recurring 151 = .ok (.ireturn, 1) := by decide +kernel
theorem d_Br_serveWishes_0 : decode b_Br_serveWishes 0 = .ok (.iconst 0, 1) := by decide +kernel
theorem d_Br_serveWishes_1 : decode b_Br_serveWishes 1 = .ok (.istore_n 2, 1) := by decide +kernel
theorem d_Br_serveWishes_2 : decode b_Br_serveWishes 2 = .ok (.iconst 0, 1) := by decide +kernel
theorem d_Br_serveWishes_3 : decode b_Br_serveWishes 3 = .ok (.istore_n 3, 1) := by decide +kernel
theorem d_Br_serveWishes_4 : decode b_Br_serveWishes 4 = .ok (.aload_n 0, 1) := by decide +kernel
theorem d_Br_serveWishes_5 : decode b_Br_serveWishes 5 = .ok (.getfield 33, 3) := by decide +kernel
theorem d_Br_serveWishes_8 : decode b_Br_serveWishes 8 = .ok (.invokevirtual 211, 3) := by decide +kernel
theorem d_Br_serveWishes_11 : decode b_Br_serveWishes 11 = .ok (.istore 4, 2) := by decide +kernel
theorem d_Br_serveWishes_13 : decode b_Br_serveWishes 13 = .ok (.iload 4, 2) := by decide +kernel
theorem d_Br_serveWishes_15 : decode b_Br_serveWishes 15 = .ok (.ifCond .le 70, 3) := by decide +kernel
theorem d_Br_serveWishes_18 : decode b_Br_serveWishes 18 = .ok (.aload_n 0, 1) := by decide +kernel
theorem d_Br_serveWishes_19 : decode b_Br_serveWishes 19 = .ok (.getfield 33, 3) := by decide +kernel
theorem d_Br_serveWishes_22 : decode b_Br_serveWishes 22 = .ok (.iload_n 3, 1) := by decide +kernel
theorem d_Br_serveWishes_23 : decode b_Br_serveWishes 23 = .ok (.invokevirtual 212, 3) := by decide +kernel
theorem d_Br_serveWishes_26 : decode b_Br_serveWishes 26 = .ok (.iload_n 1, 1) := by decide +kernel
theorem d_Br_serveWishes_27 : decode b_Br_serveWishes 27 = .ok (.if_icmp .ne 49, 3) := by decide +kernel
theorem d_Br_serveWishes_30 : decode b_Br_serveWishes 30 = .ok (.aload_n 0, 1) := by decide +kernel
theorem d_Br_serveWishes_31 : decode b_Br_serveWishes 31 = .ok (.aload_n 0, 1) := by decide +kernel
theorem d_Br_serveWishes_32 : decode b_Br_serveWishes 32 = .ok (.getfield 33, 3) := by decide +kernel
theorem d_Br_serveWishes_35 : decode b_Br_serveWishes 35 = .ok (.iload_n 3, 1) := by decide +kernel
theorem d_Br_serveWishes_36 : decode b_Br_serveWishes 36 = .ok (.invokevirtual 213, 3) := by decide +kernel
theorem d_Br_serveWishes_39 : decode b_Br_serveWishes 39 = .ok (.iload_n 1, 1) := by decide +kernel
theorem d_Br_serveWishes_40 : decode b_Br_serveWishes 40 = .ok (.aload_n 0, 1) := by decide +kernel
theorem d_Br_serveWishes_41 : decode b_Br_serveWishes 41 = .ok (.getfield 33, 3) := by decide +kernel
theorem d_Br_serveWishes_44 : decode b_Br_serveWishes 44 = .ok (.iload_n 3, 1) := by decide +kernel
theorem d_Br_serveWishes_45 : decode b_Br_serveWishes 45 = .ok (.invokevirtual 214, 3) := by decide +kernel
