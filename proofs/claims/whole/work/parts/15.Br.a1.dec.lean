theorem d_Br_serveWishes_48 : decode b_Br_serveWishes 48 = .ok (.aload_n 0, 1) := by decide +kernel
theorem d_Br_serveWishes_49 : decode b_Br_serveWishes 49 = .ok (.getfield 33, 3) := by decide +kernel
theorem d_Br_serveWishes_52 : decode b_Br_serveWishes 52 = .ok (.iload_n 3, 1) := by decide +kernel
theorem d_Br_serveWishes_53 : decode b_Br_serveWishes 53 = .ok (.invokevirtual 215, 3) := by decide +kernel
theorem d_Br_serveWishes_56 : decode b_Br_serveWishes 56 = .ok (.invokevirtual 83, 3) := by decide +kernel
theorem d_Br_serveWishes_59 : decode b_Br_serveWishes 59 = .ok (.ifCond .le 17, 3) := by decide +kernel
theorem d_Br_serveWishes_62 : decode b_Br_serveWishes 62 = .ok (.aload_n 0, 1) := by decide +kernel
theorem d_Br_serveWishes_63 : decode b_Br_serveWishes 63 = .ok (.getfield 33, 3) := by decide +kernel
theorem d_Br_serveWishes_66 : decode b_Br_serveWishes 66 = .ok (.iload_n 3, 1) := by decide +kernel
theorem d_Br_serveWishes_67 : decode b_Br_serveWishes 67 = .ok (.invokevirtual 216, 3) := by decide +kernel
theorem d_Br_serveWishes_70 : decode b_Br_serveWishes 70 = .ok (.iinc 2 1, 3) := by decide +kernel
theorem d_Br_serveWishes_73 : decode b_Br_serveWishes 73 = .ok (.goto 6, 3) := by decide +kernel
theorem d_Br_serveWishes_76 : decode b_Br_serveWishes 76 = .ok (.iinc 3 1, 3) := by decide +kernel
theorem d_Br_serveWishes_79 : decode b_Br_serveWishes 79 = .ok (.iinc 4 (-1), 3) := by decide +kernel
theorem d_Br_serveWishes_82 : decode b_Br_serveWishes 82 = .ok (.goto (-69), 3) := by decide +kernel
theorem d_Br_serveWishes_85 : decode b_Br_serveWishes 85 = .ok (.iload_n 2, 1) := by decide +kernel
theorem d_Br_serveWishes_86 : decode b_Br_serveWishes 86 = .ok (.ireturn, 1) := by decide +kernel
theorem d_Br_release_0 : decode b_Br_release 0 = .ok (.aload_n 0, 1) := by decide +kernel
theorem d_Br_release_1 : decode b_Br_release 1 = .ok (.getfield 26, 3) := by decide +kernel
theorem d_Br_release_4 : decode b_Br_release 4 = .ok (.iload_n 1, 1) := by decide +kernel
theorem d_Br_release_5 : decode b_Br_release 5 = .ok (.iload_n 2, 1) := by decide +kernel
theorem d_Br_release_6 : decode b_Br_release 6 = .ok (.invokevirtual 114, 3) := by decide +kernel
theorem d_Br_release_9 : decode b_Br_release 9 = .ok (.iconst 0, 1) := by decide +kernel
theorem d_Br_release_10 : decode b_Br_release 10 = .ok (.istore_n 3, 1) := by decide +kernel
theorem d_Br_release_11 : decode b_Br_release 11 = .ok (.iconst 0, 1) := by decide +kernel
theorem d_Br_release_12 : decode b_Br_release 12 = .ok (.istore 4, 2) := by decide +kernel
theorem d_Br_release_14 : decode b_Br_release 14 = .ok (.iload 4, 2) := by decide +kernel
theorem d_Br_release_16 : decode b_Br_release 16 = .ok (.aload_n 0, 1) := by decide +kernel
theorem d_Br_release_17 : decode b_Br_release 17 = .ok (.getfield 26, 3) := by decide +kernel
theorem d_Br_release_20 : decode b_Br_release 20 = .ok (.invokevirtual 202, 3) := by decide +kernel
theorem d_Br_release_23 : decode b_Br_release 23 = .ok (.if_icmp .ge 25, 3) := by decide +kernel
theorem d_Br_release_26 : decode b_Br_release 26 = .ok (.iload_n 3, 1) := by decide +kernel
theorem d_Br_release_27 : decode b_Br_release 27 = .ok (.aload_n 0, 1) := by decide +kernel
theorem d_Br_release_28 : decode b_Br_release 28 = .ok (.aload_n 0, 1) := by decide +kernel
theorem d_Br_release_29 : decode b_Br_release 29 = .ok (.getfield 26, 3) := by decide +kernel
theorem d_Br_release_32 : decode b_Br_release 32 = .ok (.iload 4, 2) := by decide +kernel
theorem d_Br_release_34 : decode b_Br_release 34 = .ok (.invokevirtual 205, 3) := by decide +kernel
theorem d_Br_release_37 : decode b_Br_release 37 = .ok (.invokevirtual 208, 3) := by decide +kernel
theorem d_Br_release_40 : decode b_Br_release 40 = .ok (.iadd, 1) := by decide +kernel
theorem d_Br_release_41 : decode b_Br_release 41 = .ok (.istore_n 3, 1) := by decide +kernel
theorem d_Br_release_42 : decode b_Br_release 42 = .ok (.iinc 4 1, 3) := by decide +kernel
theorem d_Br_release_45 : decode b_Br_release 45 = .ok (.goto (-31), 3) := by decide +kernel
theorem d_Br_release_48 : decode b_Br_release 48 = .ok (.iload_n 3, 1) := by decide +kernel
theorem d_Br_release_49 : decode b_Br_release 49 = .ok (.ireturn, 1) := by decide +kernel
theorem d_Br_cancel_0 : decode b_Br_cancel 0 = .ok (.aload_n 0, 1) := by decide +kernel
theorem d_Br_cancel_1 : decode b_Br_cancel 1 = .ok (.getfield 26, 3) := by decide +kernel
theorem d_Br_cancel_4 : decode b_Br_cancel 4 = .ok (.iload_n 1, 1) := by decide +kernel
theorem d_Br_cancel_5 : decode b_Br_cancel 5 = .ok (.iload_n 2, 1) := by decide +kernel
theorem d_Br_cancel_6 : decode b_Br_cancel 6 = .ok (.invokevirtual 103, 3) := by decide +kernel
theorem d_Br_cancel_9 : decode b_Br_cancel 9 = .ok (.ifCond .ne 5, 3) := by decide +kernel
theorem d_Br_cancel_12 : decode b_Br_cancel 12 = .ok (.iconst 0, 1) := by decide +kernel
theorem d_Br_cancel_13 : decode b_Br_cancel 13 = .ok (.ireturn, 1) := by decide +kernel
theorem d_Br_cancel_14 : decode b_Br_cancel 14 = .ok (.aload_n 0, 1) := by decide +kernel
theorem d_Br_cancel_15 : decode b_Br_cancel 15 = .ok (.getfield 44, 3) := by decide +kernel
theorem d_Br_cancel_18 : decode b_Br_cancel 18 = .ok (.aload_n 0, 1) := by decide +kernel
theorem d_Br_cancel_19 : decode b_Br_cancel 19 = .ok (.getfield 26, 3) := by decide +kernel
theorem d_Br_cancel_22 : decode b_Br_cancel 22 = .ok (.iload_n 1, 1) := by decide +kernel
theorem d_Br_cancel_23 : decode b_Br_cancel 23 = .ok (.invokevirtual 97, 3) := by decide +kernel
theorem d_Br_cancel_26 : decode b_Br_cancel 26 = .ok (.if_icmp .lt 5, 3) := by decide +kernel
theorem d_Br_cancel_29 : decode b_Br_cancel 29 = .ok (.iconst (-1), 1) := by decide +kernel
theorem d_Br_cancel_30 : decode b_Br_cancel 30 = .ok (.ireturn, 1) := by decide +kernel
theorem d_Br_cancel_31 : decode b_Br_cancel 31 = .ok (.iconst 1, 1) := by decide +kernel
theorem d_Br_cancel_32 : decode b_Br_cancel 32 = .ok (.aload_n 0, 1) := by decide +kernel
theorem d_Br_cancel_33 : decode b_Br_cancel 33 = .ok (.iload_n 1, 1) := by decide +kernel
theorem d_Br_cancel_34 : decode b_Br_cancel 34 = .ok (.iconst 3, 1) := by decide +kernel
theorem d_Br_cancel_35 : decode b_Br_cancel 35 = .ok (.invokevirtual 107, 3) := by decide +kernel
theorem d_Br_cancel_38 : decode b_Br_cancel 38 = .ok (.iadd, 1) := by decide +kernel
theorem d_Br_cancel_39 : decode b_Br_cancel 39 = .ok (.ireturn, 1) := by decide +kernel
theorem d_Br_lastCheckIn_0 : decode b_Br_lastCheckIn 0 = .ok (.aload_n 0, 1) := by decide +kernel
theorem d_Br_lastCheckIn_1 : decode b_Br_lastCheckIn 1 = .ok (.getfield 26, 3) := by decide +kernel
theorem d_Br_lastCheckIn_4 : decode b_Br_lastCheckIn 4 = .ok (.iload_n 1, 1) := by decide +kernel
theorem d_Br_lastCheckIn_5 : decode b_Br_lastCheckIn 5 = .ok (.invokevirtual 97, 3) := by decide +kernel
theorem d_Br_lastCheckIn_8 : decode b_Br_lastCheckIn 8 = .ok (.aload_n 0, 1) := by decide +kernel
theorem d_Br_lastCheckIn_9 : decode b_Br_lastCheckIn 9 = .ok (.getfield 19, 3) := by decide +kernel
theorem d_Br_lastCheckIn_12 : decode b_Br_lastCheckIn 12 = .ok (.aload_n 0, 1) := by decide +kernel
theorem d_Br_lastCheckIn_13 : decode b_Br_lastCheckIn 13 = .ok (.getfield 26, 3) := by decide +kernel
theorem d_Br_lastCheckIn_16 : decode b_Br_lastCheckIn 16 = .ok (.iload_n 1, 1) := by decide +kernel
theorem d_Br_lastCheckIn_17 : decode b_Br_lastCheckIn 17 = .ok (.invokevirtual 94, 3) := by decide +kernel
theorem d_Br_lastCheckIn_20 : decode b_Br_lastCheckIn 20 = .ok (.invokevirtual 199, 3) := by decide +kernel
theorem d_Br_lastCheckIn_23 : decode b_Br_lastCheckIn 23 = .ok (.iadd, 1) := by decide +kernel
theorem d_Br_lastCheckIn_24 : decode b_Br_lastCheckIn 24 = .ok (.ireturn, 1) := by decide +kernel
theorem d_Br_checkIn_0 : decode b_Br_checkIn 0 = .ok (.aload_n 0, 1) := by decide +kernel
theorem d_Br_checkIn_1 : decode b_Br_checkIn 1 = .ok (.getfield 26, 3) := by decide +kernel
theorem d_Br_checkIn_4 : decode b_Br_checkIn 4 = .ok (.iload_n 1, 1) := by decide +kernel
theorem d_Br_checkIn_5 : decode b_Br_checkIn 5 = .ok (.iload_n 2, 1) := by decide +kernel
theorem d_Br_checkIn_6 : decode b_Br_checkIn 6 = .ok (.invokevirtual 103, 3) := by decide +kernel
theorem d_Br_checkIn_9 : decode b_Br_checkIn 9 = .ok (.ifCond .ne 5, 3) := by decide +kernel
theorem d_Br_checkIn_12 : decode b_Br_checkIn 12 = .ok (.iconst 0, 1) := by decide +kernel
theorem d_Br_checkIn_13 : decode b_Br_checkIn 13 = .ok (.ireturn, 1) := by decide +kernel
theorem d_Br_checkIn_14 : decode b_Br_checkIn 14 = .ok (.aload_n 0, 1) := by decide +kernel
theorem d_Br_checkIn_15 : decode b_Br_checkIn 15 = .ok (.getfield 26, 3) := by decide +kernel
theorem d_Br_checkIn_18 : decode b_Br_checkIn 18 = .ok (.iload_n 1, 1) := by decide +kernel
theorem d_Br_checkIn_19 : decode b_Br_checkIn 19 = .ok (.invokevirtual 97, 3) := by decide +kernel
theorem d_Br_checkIn_22 : decode b_Br_checkIn 22 = .ok (.bipush 15, 2) := by decide +kernel
theorem d_Br_checkIn_24 : decode b_Br_checkIn 24 = .ok (.isub, 1) := by decide +kernel
theorem d_Br_checkIn_25 : decode b_Br_checkIn 25 = .ok (.istore_n 3, 1) := by decide +kernel
theorem d_Br_checkIn_26 : decode b_Br_checkIn 26 = .ok (.aload_n 0, 1) := by decide +kernel
theorem d_Br_checkIn_27 : decode b_Br_checkIn 27 = .ok (.getfield 44, 3) := by decide +kernel
theorem d_Br_checkIn_30 : decode b_Br_checkIn 30 = .ok (.iload_n 3, 1) := by decide +kernel
theorem d_Br_checkIn_31 : decode b_Br_checkIn 31 = .ok (.if_icmp .lt 15, 3) := by decide +kernel
theorem d_Br_checkIn_34 : decode b_Br_checkIn 34 = .ok (.aload_n 0, 1) := by decide +kernel
theorem d_Br_checkIn_35 : decode b_Br_checkIn 35 = .ok (.getfield 44, 3) := by decide +kernel
theorem d_Br_checkIn_38 : decode b_Br_checkIn 38 = .ok (.aload_n 0, 1) := by decide +kernel
theorem d_Br_checkIn_39 : decode b_Br_checkIn 39 = .ok (.iload_n 1, 1) := by decide +kernel
theorem d_Br_checkIn_40 : decode b_Br_checkIn 40 = .ok (.invokevirtual 111, 3) := by decide +kernel
theorem d_Br_checkIn_43 : decode b_Br_checkIn 43 = .ok (.if_icmp .le 5, 3) := by decide +kernel
theorem d_Br_checkIn_46 : decode b_Br_checkIn 46 = .ok (.iconst (-1), 1) := by decide +kernel
theorem d_Br_checkIn_47 : decode b_Br_checkIn 47 = .ok (.ireturn, 1) := by decide +kernel
theorem d_Br_checkIn_48 : decode b_Br_checkIn 48 = .ok (.aload_n 0, 1) := by decide +kernel
theorem d_Br_checkIn_49 : decode b_Br_checkIn 49 = .ok (.getfield 26, 3) := by decide +kernel
theorem d_Br_checkIn_52 : decode b_Br_checkIn 52 = .ok (.iload_n 1, 1) := by decide +kernel
theorem d_Br_checkIn_53 : decode b_Br_checkIn 53 = .ok (.iconst 1, 1) := by decide +kernel
theorem d_Br_checkIn_54 : decode b_Br_checkIn 54 = .ok (.invokevirtual 114, 3) := by decide +kernel
theorem d_Br_checkIn_57 : decode b_Br_checkIn 57 = .ok (.iconst 1, 1) := by decide +kernel
theorem d_Br_checkIn_58 : decode b_Br_checkIn 58 = .ok (.ireturn, 1) := by decide +kernel
theorem d_Br_edit_0 : decode b_Br_edit 0 = .ok (.aload_n 0, 1) := by decide +kernel
theorem d_Br_edit_1 : decode b_Br_edit 1 = .ok (.getfield 26, 3) := by decide +kernel
theorem d_Br_edit_4 : decode b_Br_edit 4 = .ok (.iload_n 1, 1) := by decide +kernel
theorem d_Br_edit_5 : decode b_Br_edit 5 = .ok (.iload_n 2, 1) := by decide +kernel
theorem d_Br_edit_6 : decode b_Br_edit 6 = .ok (.invokevirtual 103, 3) := by decide +kernel
theorem d_Br_edit_9 : decode b_Br_edit 9 = .ok (.ifCond .eq 25, 3) := by decide +kernel
theorem d_Br_edit_12 : decode b_Br_edit 12 = .ok (.aload_n 0, 1) := by decide +kernel
theorem d_Br_edit_13 : decode b_Br_edit 13 = .ok (.getfield 26, 3) := by decide +kernel
theorem d_Br_edit_16 : decode b_Br_edit 16 = .ok (.iload_n 1, 1) := by decide +kernel
theorem d_Br_edit_17 : decode b_Br_edit 17 = .ok (.invokevirtual 118, 3) := by decide +kernel
theorem d_Br_edit_20 : decode b_Br_edit 20 = .ok (.ifCond .ne 14, 3) := by decide +kernel
theorem d_Br_edit_23 : decode b_Br_edit 23 = .ok (.aload_n 0, 1) := by decide +kernel
theorem d_Br_edit_24 : decode b_Br_edit 24 = .ok (.getfield 26, 3) := by decide +kernel
theorem d_Br_edit_27 : decode b_Br_edit 27 = .ok (.iload_n 1, 1) := by decide +kernel
theorem d_Br_edit_28 : decode b_Br_edit 28 = .ok (.invokevirtual 121, 3) := by decide +kernel
theorem d_Br_edit_31 : decode b_Br_edit 31 = .ok (.ifCond .eq 5, 3) := by decide +kernel
theorem d_Br_edit_34 : decode b_Br_edit 34 = .ok (.iconst 0, 1) := by decide +kernel
theorem d_Br_edit_35 : decode b_Br_edit 35 = .ok (.ireturn, 1) := by decide +kernel
theorem d_Br_edit_36 : decode b_Br_edit 36 = .ok (.aload_n 0, 1) := by decide +kernel
theorem d_Br_edit_37 : decode b_Br_edit 37 = .ok (.iload_n 2, 1) := by decide +kernel
theorem d_Br_edit_38 : decode b_Br_edit 38 = .ok (.aload_n 0, 1) := by decide +kernel
theorem d_Br_edit_39 : decode b_Br_edit 39 = .ok (.getfield 26, 3) := by decide +kernel
theorem d_Br_edit_42 : decode b_Br_edit 42 = .ok (.iload_n 1, 1) := by decide +kernel
theorem d_Br_edit_43 : decode b_Br_edit 43 = .ok (.invokevirtual 94, 3) := by decide +kernel
theorem d_Br_edit_46 : decode b_Br_edit 46 = .ok (.iload_n 3, 1) := by decide +kernel
theorem d_Br_edit_47 : decode b_Br_edit 47 = .ok (.iload 4, 2) := by decide +kernel
theorem d_Br_edit_49 : decode b_Br_edit 49 = .ok (.iload_n 1, 1) := by decide +kernel
theorem d_Br_edit_50 : decode b_Br_edit 50 = .ok (.invokevirtual 124, 3) := by decide +kernel
theorem d_Br_edit_53 : decode b_Br_edit 53 = .ok (.istore 5, 2) := by decide +kernel
theorem d_Br_edit_55 : decode b_Br_edit 55 = .ok (.iload 5, 2) := by decide +kernel
theorem d_Br_edit_57 : decode b_Br_edit 57 = .ok (.ifCond .eq 6, 3) := by decide +kernel
theorem d_Br_edit_60 : decode b_Br_edit 60 = .ok (.iload 5, 2) := by decide +kernel
theorem d_Br_edit_62 : decode b_Br_edit 62 = .ok (.ireturn, 1) := by decide +kernel
theorem d_Br_edit_63 : decode b_Br_edit 63 = .ok (.aload_n 0, 1) := by decide +kernel
theorem d_Br_edit_64 : decode b_Br_edit 64 = .ok (.getfield 26, 3) := by decide +kernel
theorem d_Br_edit_67 : decode b_Br_edit 67 = .ok (.iload_n 1, 1) := by decide +kernel
theorem d_Br_edit_68 : decode b_Br_edit 68 = .ok (.iload_n 3, 1) := by decide +kernel
theorem d_Br_edit_69 : decode b_Br_edit 69 = .ok (.iload 4, 2) := by decide +kernel
theorem d_Br_edit_71 : decode b_Br_edit 71 = .ok (.invokevirtual 127, 3) := by decide +kernel
theorem d_Br_edit_74 : decode b_Br_edit 74 = .ok (.iconst 1, 1) := by decide +kernel
theorem d_Br_edit_75 : decode b_Br_edit 75 = .ok (.ireturn, 1) := by decide +kernel
theorem d_Br_equip_0 : decode b_Br_equip 0 = .ok (.aload_n 0, 1) := by decide +kernel
theorem d_Br_equip_1 : decode b_Br_equip 1 = .ok (.getfield 26, 3) := by decide +kernel
theorem d_Br_equip_4 : decode b_Br_equip 4 = .ok (.iload_n 1, 1) := by decide +kernel
theorem d_Br_equip_5 : decode b_Br_equip 5 = .ok (.invokevirtual 87, 3) := by decide +kernel
theorem d_Br_equip_8 : decode b_Br_equip 8 = .ok (.ifCond .eq 35, 3) := by decide +kernel
theorem d_Br_equip_11 : decode b_Br_equip 11 = .ok (.aload_n 0, 1) := by decide +kernel
theorem d_Br_equip_12 : decode b_Br_equip 12 = .ok (.getfield 26, 3) := by decide +kernel
theorem d_Br_equip_15 : decode b_Br_equip 15 = .ok (.iload_n 1, 1) := by decide +kernel
theorem d_Br_equip_16 : decode b_Br_equip 16 = .ok (.invokevirtual 131, 3) := by decide +kernel
theorem d_Br_equip_19 : decode b_Br_equip 19 = .ok (.ifCond .eq 24, 3) := by decide +kernel
theorem d_Br_equip_22 : decode b_Br_equip 22 = .ok (.aload_n 0, 1) := by decide +kernel
theorem d_Br_equip_23 : decode b_Br_equip 23 = .ok (.getfield 26, 3) := by decide +kernel
theorem d_Br_equip_26 : decode b_Br_equip 26 = .ok (.iload_n 1, 1) := by decide +kernel
theorem d_Br_equip_27 : decode b_Br_equip 27 = .ok (.invokevirtual 118, 3) := by decide +kernel
theorem d_Br_equip_30 : decode b_Br_equip 30 = .ok (.ifCond .ne 13, 3) := by decide +kernel
theorem d_Br_equip_33 : decode b_Br_equip 33 = .ok (.aload_n 0, 1) := by decide +kernel
theorem d_Br_equip_34 : decode b_Br_equip 34 = .ok (.getfield 26, 3) := by decide +kernel
theorem d_Br_equip_37 : decode b_Br_equip 37 = .ok (.invokevirtual 134, 3) := by decide +kernel
theorem d_Br_equip_40 : decode b_Br_equip 40 = .ok (.ifCond .eq 5, 3) := by decide +kernel
theorem d_Br_equip_43 : decode b_Br_equip 43 = .ok (.iconst 0, 1) := by decide +kernel
theorem d_Br_equip_44 : decode b_Br_equip 44 = .ok (.ireturn, 1) := by decide +kernel
theorem d_Br_equip_45 : decode b_Br_equip 45 = .ok (.aload_n 0, 1) := by decide +kernel
theorem d_Br_equip_46 : decode b_Br_equip 46 = .ok (.getfield 26, 3) := by decide +kernel
theorem d_Br_equip_49 : decode b_Br_equip 49 = .ok (.iload_n 1, 1) := by decide +kernel
theorem d_Br_equip_50 : decode b_Br_equip 50 = .ok (.invokevirtual 94, 3) := by decide +kernel
theorem d_Br_equip_53 : decode b_Br_equip 53 = .ok (.istore_n 3, 1) := by decide +kernel
theorem d_Br_equip_54 : decode b_Br_equip 54 = .ok (.aload_n 0, 1) := by decide +kernel
theorem d_Br_equip_55 : decode b_Br_equip 55 = .ok (.getfield 19, 3) := by decide +kernel
theorem d_Br_equip_58 : decode b_Br_equip 58 = .ok (.iload_n 2, 1) := by decide +kernel
theorem d_Br_equip_59 : decode b_Br_equip 59 = .ok (.invokevirtual 80, 3) := by decide +kernel
theorem d_Br_equip_62 : decode b_Br_equip 62 = .ok (.ifCond .eq 27, 3) := by decide +kernel
theorem d_Br_equip_65 : decode b_Br_equip 65 = .ok (.iload_n 2, 1) := by decide +kernel
theorem d_Br_equip_66 : decode b_Br_equip 66 = .ok (.iload_n 3, 1) := by decide +kernel
theorem d_Br_equip_67 : decode b_Br_equip 67 = .ok (.if_icmp .eq 22, 3) := by decide +kernel
theorem d_Br_equip_70 : decode b_Br_equip 70 = .ok (.aload_n 0, 1) := by decide +kernel
theorem d_Br_equip_71 : decode b_Br_equip 71 = .ok (.getfield 19, 3) := by decide +kernel
theorem d_Br_equip_74 : decode b_Br_equip 74 = .ok (.iload_n 2, 1) := by decide +kernel
theorem d_Br_equip_75 : decode b_Br_equip 75 = .ok (.invokevirtual 135, 3) := by decide +kernel
theorem d_Br_equip_78 : decode b_Br_equip 78 = .ok (.aload_n 0, 1) := by decide +kernel
theorem d_Br_equip_79 : decode b_Br_equip 79 = .ok (.getfield 19, 3) := by decide +kernel
theorem d_Br_equip_82 : decode b_Br_equip 82 = .ok (.iload_n 3, 1) := by decide +kernel
theorem d_Br_equip_83 : decode b_Br_equip 83 = .ok (.invokevirtual 135, 3) := by decide +kernel
theorem d_Br_equip_86 : decode b_Br_equip 86 = .ok (.if_icmp .eq 5, 3) := by decide +kernel
theorem d_Br_equip_89 : decode b_Br_equip 89 = .ok (.iconst 0, 1) := by decide +kernel
theorem d_Br_equip_90 : decode b_Br_equip 90 = .ok (.ireturn, 1) := by decide +kernel
theorem d_Br_equip_91 : decode b_Br_equip 91 = .ok (.aload_n 0, 1) := by decide +kernel
theorem d_Br_equip_92 : decode b_Br_equip 92 = .ok (.getfield 26, 3) := by decide +kernel
theorem d_Br_equip_95 : decode b_Br_equip 95 = .ok (.iload_n 1, 1) := by decide +kernel
theorem d_Br_equip_96 : decode b_Br_equip 96 = .ok (.invokevirtual 97, 3) := by decide +kernel
theorem d_Br_equip_99 : decode b_Br_equip 99 = .ok (.istore 4, 2) := by decide +kernel
theorem d_Br_equip_101 : decode b_Br_equip 101 = .ok (.aload_n 0, 1) := by decide +kernel
theorem d_Br_equip_102 : decode b_Br_equip 102 = .ok (.getfield 26, 3) := by decide +kernel
theorem d_Br_equip_105 : decode b_Br_equip 105 = .ok (.iload_n 1, 1) := by decide +kernel
theorem d_Br_equip_106 : decode b_Br_equip 106 = .ok (.invokevirtual 100, 3) := by decide +kernel
theorem d_Br_equip_109 : decode b_Br_equip 109 = .ok (.istore 5, 2) := by decide +kernel
theorem d_Br_equip_111 : decode b_Br_equip 111 = .ok (.aload_n 0, 1) := by decide +kernel
theorem d_Br_equip_112 : decode b_Br_equip 112 = .ok (.getfield 26, 3) := by decide +kernel
theorem d_Br_equip_115 : decode b_Br_equip 115 = .ok (.iload_n 2, 1) := by decide +kernel
theorem d_Br_equip_116 : decode b_Br_equip 116 = .ok (.iload 4, 2) := by decide +kernel
theorem d_Br_equip_118 : decode b_Br_equip 118 = .ok (.iload 5, 2) := by decide +kernel
theorem d_Br_equip_120 : decode b_Br_equip 120 = .ok (.iconst 0, 1) := by decide +kernel
theorem d_Br_equip_121 : decode b_Br_equip 121 = .ok (.invokevirtual 138, 3) := by decide +kernel
theorem d_Br_equip_124 : decode b_Br_equip 124 = .ok (.ifCond .eq 6, 3) := by decide +kernel
theorem d_Br_equip_127 : decode b_Br_equip 127 = .ok (.bipush (-6), 2) := by decide +kernel
theorem d_Br_equip_129 : decode b_Br_equip 129 = .ok (.ireturn, 1) := by decide +kernel
theorem d_Br_equip_130 : decode b_Br_equip 130 = .ok (.aload_n 0, 1) := by decide +kernel
theorem d_Br_equip_131 : decode b_Br_equip 131 = .ok (.getfield 26, 3) := by decide +kernel
theorem d_Br_equip_134 : decode b_Br_equip 134 = .ok (.aload_n 0, 1) := by decide +kernel
theorem d_Br_equip_135 : decode b_Br_equip 135 = .ok (.getfield 26, 3) := by decide +kernel
theorem d_Br_equip_138 : decode b_Br_equip 138 = .ok (.iload_n 1, 1) := by decide +kernel
theorem d_Br_equip_139 : decode b_Br_equip 139 = .ok (.invokevirtual 91, 3) := by decide +kernel
theorem d_Br_equip_142 : decode b_Br_equip 142 = .ok (.iload_n 2, 1) := by decide +kernel
theorem d_Br_equip_143 : decode b_Br_equip 143 = .ok (.iload 4, 2) := by decide +kernel
theorem d_Br_equip_145 : decode b_Br_equip 145 = .ok (.iload 5, 2) := by decide +kernel
theorem d_Br_equip_147 : decode b_Br_equip 147 = .ok (.iload_n 1, 1) := by decide +kernel
theorem d_Br_equip_148 : decode b_Br_equip 148 = .ok (.invokevirtual 142, 3) := by decide +kernel
theorem d_Br_equip_151 : decode b_Br_equip 151 = .ok (.ireturn, 1) := by decide +kernel
theorem d_Br_wish_0 : decode b_Br_wish 0 = .ok (.iload_n 1, 1) := by decide +kernel
theorem d_Br_wish_1 : decode b_Br_wish 1 = .ok (.invokestatic 77, 3) := by decide +kernel
theorem d_Br_wish_4 : decode b_Br_wish 4 = .ok (.ifCond .eq 24, 3) := by decide +kernel
theorem d_Br_wish_7 : decode b_Br_wish 7 = .ok (.aload_n 0, 1) := by decide +kernel
theorem d_Br_wish_8 : decode b_Br_wish 8 = .ok (.getfield 19, 3) := by decide +kernel
theorem d_Br_wish_11 : decode b_Br_wish 11 = .ok (.iload_n 2, 1) := by decide +kernel
theorem d_Br_wish_12 : decode b_Br_wish 12 = .ok (.invokevirtual 80, 3) := by decide +kernel
theorem d_Br_wish_15 : decode b_Br_wish 15 = .ok (.ifCond .eq 13, 3) := by decide +kernel
theorem d_Br_wish_18 : decode b_Br_wish 18 = .ok (.aload_n 0, 1) := by decide +kernel
theorem d_Br_wish_19 : decode b_Br_wish 19 = .ok (.getfield 33, 3) := by decide +kernel
theorem d_Br_wish_22 : decode b_Br_wish 22 = .ok (.invokevirtual 143, 3) := by decide +kernel
theorem d_Br_wish_25 : decode b_Br_wish 25 = .ok (.ifCond .eq 5, 3) := by decide +kernel
theorem d_Br_wish_28 : decode b_Br_wish 28 = .ok (.iconst 0, 1) := by decide +kernel
theorem d_Br_wish_29 : decode b_Br_wish 29 = .ok (.ireturn, 1) := by decide +kernel
theorem d_Br_wish_30 : decode b_Br_wish 30 = .ok (.aload_n 0, 1) := by decide +kernel
theorem d_Br_wish_31 : decode b_Br_wish 31 = .ok (.iload_n 1, 1) := by decide +kernel
theorem d_Br_wish_32 : decode b_Br_wish 32 = .ok (.iload_n 2, 1) := by decide +kernel
theorem d_Br_wish_33 : decode b_Br_wish 33 = .ok (.iload_n 3, 1) := by decide +kernel
theorem d_Br_wish_34 : decode b_Br_wish 34 = .ok (.iload 4, 2) := by decide +kernel
theorem d_Br_wish_36 : decode b_Br_wish 36 = .ok (.iconst 0, 1) := by decide +kernel
theorem d_Br_wish_37 : decode b_Br_wish 37 = .ok (.invokevirtual 124, 3) := by decide +kernel
theorem d_Br_wish_40 : decode b_Br_wish 40 = .ok (.bipush (-6), 2) := by decide +kernel
theorem d_Br_wish_42 : decode b_Br_wish 42 = .ok (.if_icmp .eq 5, 3) := by decide +kernel
theorem d_Br_wish_45 : decode b_Br_wish 45 = .ok (.iconst (-1), 1) := by decide +kernel
theorem d_Br_wish_46 : decode b_Br_wish 46 = .ok (.ireturn, 1) := by decide +kernel
theorem d_Br_wish_47 : decode b_Br_wish 47 = .ok (.aload_n 0, 1) := by decide +kernel
theorem d_Br_wish_48 : decode b_Br_wish 48 = .ok (.getfield 33, 3) := by decide +kernel
theorem d_Br_wish_51 : decode b_Br_wish 51 = .ok (.iload_n 1, 1) := by decide +kernel
theorem d_Br_wish_52 : decode b_Br_wish 52 = .ok (.iload_n 2, 1) := by decide +kernel
theorem d_Br_wish_53 : decode b_Br_wish 53 = .ok (.iload_n 3, 1) := by decide +kernel
theorem d_Br_wish_54 : decode b_Br_wish 54 = .ok (.iload 4, 2) := by decide +kernel
theorem d_Br_wish_56 : decode b_Br_wish 56 = .ok (.iload 5, 2) := by decide +kernel
theorem d_Br_wish_58 : decode b_Br_wish 58 = .ok (.invokevirtual 144, 3) := by decide +kernel
theorem d_Br_wish_61 : decode b_Br_wish 61 = .ok (.ireturn, 1) := by decide +kernel
theorem d_Br_isMissed_0 : decode b_Br_isMissed 0 = .ok (.aload_n 0, 1) := by decide +kernel
theorem d_Br_isMissed_1 : decode b_Br_isMissed 1 = .ok (.getfield 26, 3) := by decide +kernel
theorem d_Br_isMissed_4 : decode b_Br_isMissed 4 = .ok (.iload_n 1, 1) := by decide +kernel
theorem d_Br_isMissed_5 : decode b_Br_isMissed 5 = .ok (.invokevirtual 131, 3) := by decide +kernel
theorem d_Br_isMissed_8 : decode b_Br_isMissed 8 = .ok (.ifCond .eq 30, 3) := by decide +kernel
theorem d_Br_isMissed_11 : decode b_Br_isMissed 11 = .ok (.aload_n 0, 1) := by decide +kernel
theorem d_Br_isMissed_12 : decode b_Br_isMissed 12 = .ok (.getfield 26, 3) := by decide +kernel
theorem d_Br_isMissed_15 : decode b_Br_isMissed 15 = .ok (.iload_n 1, 1) := by decide +kernel
theorem d_Br_isMissed_16 : decode b_Br_isMissed 16 = .ok (.invokevirtual 118, 3) := by decide +kernel
theorem d_Br_isMissed_19 : decode b_Br_isMissed 19 = .ok (.ifCond .ne 19, 3) := by decide +kernel
theorem d_Br_isMissed_22 : decode b_Br_isMissed 22 = .ok (.aload_n 0, 1) := by decide +kernel
theorem d_Br_isMissed_23 : decode b_Br_isMissed 23 = .ok (.iload_n 1, 1) := by decide +kernel
theorem d_Br_isMissed_24 : decode b_Br_isMissed 24 = .ok (.invokevirtual 111, 3) := by decide +kernel
theorem d_Br_isMissed_27 : decode b_Br_isMissed 27 = .ok (.aload_n 0, 1) := by decide +kernel
theorem d_Br_isMissed_28 : decode b_Br_isMissed 28 = .ok (.getfield 44, 3) := by decide +kernel
theorem d_Br_isMissed_31 : decode b_Br_isMissed 31 = .ok (.if_icmp .ge 7, 3) := by decide +kernel
theorem d_Br_isMissed_34 : decode b_Br_isMissed 34 = .ok (.iconst 1, 1) := by decide +kernel
theorem d_Br_isMissed_35 : decode b_Br_isMissed 35 = .ok (.goto 4, 3) := by decide +kernel
theorem d_Br_isMissed_38 : decode b_Br_isMissed 38 = .ok (.iconst 0, 1) := by decide +kernel
theorem d_Br_isMissed_39 : decode b_Br_isMissed 39 = .ok (.ireturn, 1) := by decide +kernel
theorem d_Br_tick_0 : decode b_Br_tick 0 = .ok (.iload_n 1, 1) := by decide +kernel
theorem d_Br_tick_1 : decode b_Br_tick 1 = .ok (.aload_n 0, 1) := by decide +kernel
theorem d_Br_tick_2 : decode b_Br_tick 2 = .ok (.getfield 44, 3) := by decide +kernel
theorem d_Br_tick_5 : decode b_Br_tick 5 = .ok (.if_icmp .le 9, 3) := by decide +kernel
theorem d_Br_tick_8 : decode b_Br_tick 8 = .ok (.iload_n 1, 1) := by decide +kernel
theorem d_Br_tick_9 : decode b_Br_tick 9 = .ok (.ldc 145, 2) := by decide +kernel
theorem d_Br_tick_11 : decode b_Br_tick 11 = .ok (.if_icmp .le 5, 3) := by decide +kernel
theorem d_Br_tick_14 : decode b_Br_tick 14 = .ok (.iconst (-1), 1) := by decide +kernel
theorem d_Br_tick_15 : decode b_Br_tick 15 = .ok (.ireturn, 1) := by decide +kernel
theorem d_Br_tick_16 : decode b_Br_tick 16 = .ok (.aload_n 0, 1) := by decide +kernel
theorem d_Br_tick_17 : decode b_Br_tick 17 = .ok (.iload_n 1, 1) := by decide +kernel
theorem d_Br_tick_18 : decode b_Br_tick 18 = .ok (.putfield 44, 3) := by decide +kernel
theorem d_Br_tick_21 : decode b_Br_tick 21 = .ok (.aload_n 0, 1) := by decide +kernel
theorem d_Br_tick_22 : decode b_Br_tick 22 = .ok (.getfield 26, 3) := by decide +kernel
theorem d_Br_tick_25 : decode b_Br_tick 25 = .ok (.aload_n 0, 1) := by decide +kernel
theorem d_Br_tick_26 : decode b_Br_tick 26 = .ok (.getfield 44, 3) := by decide +kernel
theorem d_Br_tick_29 : decode b_Br_tick 29 = .ok (.invokevirtual 146, 3) := by decide +kernel
theorem d_Br_tick_32 : decode b_Br_tick 32 = .ok (.iconst 0, 1) := by decide +kernel
theorem d_Br_tick_33 : decode b_Br_tick 33 = .ok (.istore_n 2, 1) := by decide +kernel
theorem d_Br_tick_34 : decode b_Br_tick 34 = .ok (.aload_n 0, 1) := by decide +kernel
theorem d_Br_tick_35 : decode b_Br_tick 35 = .ok (.getfield 26, 3) := by decide +kernel
theorem d_Br_tick_38 : decode b_Br_tick 38 = .ok (.invokevirtual 150, 3) := by decide +kernel
theorem d_Br_tick_41 : decode b_Br_tick 41 = .ok (.istore_n 3, 1) := by decide +kernel
theorem d_Br_tick_42 : decode b_Br_tick 42 = .ok (.iconst 1, 1) := by decide +kernel
theorem d_Br_tick_43 : decode b_Br_tick 43 = .ok (.istore 4, 2) := by decide +kernel
theorem d_Br_tick_45 : decode b_Br_tick 45 = .ok (.iload 4, 2) := by decide +kernel
theorem d_Br_tick_47 : decode b_Br_tick 47 = .ok (.iload_n 3, 1) := by decide +kernel
theorem d_Br_tick_48 : decode b_Br_tick 48 = .ok (.if_icmp .gt 49, 3) := by decide +kernel
theorem d_Br_tick_51 : decode b_Br_tick 51 = .ok (.aload_n 0, 1) := by decide +kernel
theorem d_Br_tick_52 : decode b_Br_tick 52 = .ok (.iload 4, 2) := by decide +kernel
theorem d_Br_tick_54 : decode b_Br_tick 54 = .ok (.invokevirtual 154, 3) := by decide +kernel
theorem d_Br_tick_57 : decode b_Br_tick 57 = .ok (.ifCond .eq 34, 3) := by decide +kernel
theorem d_Br_tick_60 : decode b_Br_tick 60 = .ok (.iinc 2 1, 3) := by decide +kernel
theorem d_Br_tick_63 : decode b_Br_tick 63 = .ok (.aload_n 0, 1) := by decide +kernel
theorem d_Br_tick_64 : decode b_Br_tick 64 = .ok (.getfield 40, 3) := by decide +kernel
theorem d_Br_tick_67 : decode b_Br_tick 67 = .ok (.aload_n 0, 1) := by decide +kernel
theorem d_Br_tick_68 : decode b_Br_tick 68 = .ok (.getfield 26, 3) := by decide +kernel
theorem d_Br_tick_71 : decode b_Br_tick 71 = .ok (.iload 4, 2) := by decide +kernel
theorem d_Br_tick_73 : decode b_Br_tick 73 = .ok (.invokevirtual 91, 3) := by decide +kernel
theorem d_Br_tick_76 : decode b_Br_tick 76 = .ok (.aload_n 0, 1) := by decide +kernel
theorem d_Br_tick_77 : decode b_Br_tick 77 = .ok (.getfield 44, 3) := by decide +kernel
theorem d_Br_tick_80 : decode b_Br_tick 80 = .ok (.invokevirtual 157, 3) := by decide +kernel
theorem d_Br_tick_83 : decode b_Br_tick 83 = .ok (.aload_n 0, 1) := by decide +kernel
theorem d_Br_tick_84 : decode b_Br_tick 84 = .ok (.iload 4, 2) := by decide +kernel
theorem d_Br_tick_86 : decode b_Br_tick 86 = .ok (.iconst 4, 1) := by decide +kernel
theorem d_Br_tick_87 : decode b_Br_tick 87 = .ok (.invokevirtual 107, 3) := by decide +kernel
theorem d_Br_tick_90 : decode b_Br_tick 90 = .ok (.pop, 1) := by decide +kernel
theorem d_Br_tick_91 : decode b_Br_tick 91 = .ok (.iinc 4 1, 3) := by decide +kernel
theorem d_Br_tick_94 : decode b_Br_tick 94 = .ok (.goto (-49), 3) := by decide +kernel
theorem d_Br_tick_97 : decode b_Br_tick 97 = .ok (.iload_n 2, 1) := by decide +kernel
theorem d_Br_tick_98 : decode b_Br_tick 98 = .ok (.ireturn, 1) := by decide +kernel
theorem d_Br_clash_0 : decode b_Br_clash 0 = .ok (.aload_n 0, 1) := by decide +kernel
theorem d_Br_clash_1 : decode b_Br_clash 1 = .ok (.getfield 26, 3) := by decide +kernel
theorem d_Br_clash_4 : decode b_Br_clash 4 = .ok (.iload_n 1, 1) := by decide +kernel
theorem d_Br_clash_5 : decode b_Br_clash 5 = .ok (.invokevirtual 87, 3) := by decide +kernel
theorem d_Br_clash_8 : decode b_Br_clash 8 = .ok (.ifCond .eq 64, 3) := by decide +kernel
theorem d_Br_clash_11 : decode b_Br_clash 11 = .ok (.aload_n 0, 1) := by decide +kernel
theorem d_Br_clash_12 : decode b_Br_clash 12 = .ok (.getfield 26, 3) := by decide +kernel
theorem d_Br_clash_15 : decode b_Br_clash 15 = .ok (.iload_n 2, 1) := by decide +kernel
theorem d_Br_clash_16 : decode b_Br_clash 16 = .ok (.invokevirtual 87, 3) := by decide +kernel
theorem d_Br_clash_19 : decode b_Br_clash 19 = .ok (.ifCond .eq 53, 3) := by decide +kernel
theorem d_Br_clash_22 : decode b_Br_clash 22 = .ok (.aload_n 0, 1) := by decide +kernel
theorem d_Br_clash_23 : decode b_Br_clash 23 = .ok (.getfield 26, 3) := by decide +kernel
theorem d_Br_clash_26 : decode b_Br_clash 26 = .ok (.iload_n 1, 1) := by decide +kernel
theorem d_Br_clash_27 : decode b_Br_clash 27 = .ok (.invokevirtual 94, 3) := by decide +kernel
theorem d_Br_clash_30 : decode b_Br_clash 30 = .ok (.aload_n 0, 1) := by decide +kernel
theorem d_Br_clash_31 : decode b_Br_clash 31 = .ok (.getfield 26, 3) := by decide +kernel
theorem d_Br_clash_34 : decode b_Br_clash 34 = .ok (.iload_n 2, 1) := by decide +kernel
theorem d_Br_clash_35 : decode b_Br_clash 35 = .ok (.invokevirtual 94, 3) := by decide +kernel
theorem d_Br_clash_38 : decode b_Br_clash 38 = .ok (.if_icmp .ne 34, 3) := by decide +kernel
theorem d_Br_clash_41 : decode b_Br_clash 41 = .ok (.aload_n 0, 1) := by decide +kernel
theorem d_Br_clash_42 : decode b_Br_clash 42 = .ok (.getfield 26, 3) := by decide +kernel
theorem d_Br_clash_45 : decode b_Br_clash 45 = .ok (.iload_n 1, 1) := by decide +kernel
theorem d_Br_clash_46 : decode b_Br_clash 46 = .ok (.aload_n 0, 1) := by decide +kernel
theorem d_Br_clash_47 : decode b_Br_clash 47 = .ok (.getfield 26, 3) := by decide +kernel
theorem d_Br_clash_50 : decode b_Br_clash 50 = .ok (.iload_n 2, 1) := by decide +kernel
theorem d_Br_clash_51 : decode b_Br_clash 51 = .ok (.invokevirtual 97, 3) := by decide +kernel
theorem d_Br_clash_54 : decode b_Br_clash 54 = .ok (.aload_n 0, 1) := by decide +kernel
theorem d_Br_clash_55 : decode b_Br_clash 55 = .ok (.getfield 26, 3) := by decide +kernel
theorem d_Br_clash_58 : decode b_Br_clash 58 = .ok (.iload_n 2, 1) := by decide +kernel
theorem d_Br_clash_59 : decode b_Br_clash 59 = .ok (.invokevirtual 100, 3) := by decide +kernel
theorem d_Br_clash_62 : decode b_Br_clash 62 = .ok (.invokevirtual 160, 3) := by decide +kernel
theorem d_Br_clash_65 : decode b_Br_clash 65 = .ok (.ifCond .eq 7, 3) := by decide +kernel
theorem d_Br_clash_68 : decode b_Br_clash 68 = .ok (.iconst 1, 1) := by decide +kernel
theorem d_Br_clash_69 : decode b_Br_clash 69 = .ok (.goto 4, 3) := by decide +kernel
theorem d_Br_clash_72 : decode b_Br_clash 72 = .ok (.iconst 0, 1) := by decide +kernel
theorem d_Br_clash_73 : decode b_Br_clash 73 = .ok (.ireturn, 1) := by decide +kernel
theorem d_Br_booking_0 : decode b_Br_booking 0 = .ok (.aload_n 0, 1) := by decide +kernel
theorem d_Br_booking_1 : decode b_Br_booking 1 = .ok (.getfield 26, 3) := by decide +kernel
theorem d_Br_booking_4 : decode b_Br_booking 4 = .ok (.iload_n 1, 1) := by decide +kernel
theorem d_Br_booking_5 : decode b_Br_booking 5 = .ok (.invokevirtual 87, 3) := by decide +kernel
theorem d_Br_booking_8 : decode b_Br_booking 8 = .ok (.ifCond .ne 5, 3) := by decide +kernel
theorem d_Br_booking_11 : decode b_Br_booking 11 = .ok (.iconst (-1), 1) := by decide +kernel
theorem d_Br_booking_12 : decode b_Br_booking 12 = .ok (.ireturn, 1) := by decide +kernel
theorem d_Br_booking_13 : decode b_Br_booking 13 = .ok (.iload_n 2, 1) := by decide +kernel
theorem d_Br_booking_14 : decode b_Br_booking 14 = .ok (.tableswitch 92 0 5 #[38, 47, 56, 65, 74, 83], 38) := by decide +kernel
theorem d_Br_booking_52 : decode b_Br_booking 52 = .ok (.aload_n 0, 1) := by decide +kernel
theorem d_Br_booking_53 : decode b_Br_booking 53 = .ok (.getfield 26, 3) := by decide +kernel
theorem d_Br_booking_56 : decode b_Br_booking 56 = .ok (.iload_n 1, 1) := by decide +kernel
theorem d_Br_booking_57 : decode b_Br_booking 57 = .ok (.invokevirtual 91, 3) := by decide +kernel
theorem d_Br_booking_60 : decode b_Br_booking 60 = .ok (.ireturn, 1) := by decide +kernel
theorem d_Br_booking_61 : decode b_Br_booking 61 = .ok (.aload_n 0, 1) := by decide +kernel
theorem d_Br_booking_62 : decode b_Br_booking 62 = .ok (.getfield 26, 3) := by decide +kernel
theorem d_Br_booking_65 : decode b_Br_booking 65 = .ok (.iload_n 1, 1) := by decide +kernel
theorem d_Br_booking_66 : decode b_Br_booking 66 = .ok (.invokevirtual 94, 3) := by decide +kernel
theorem d_Br_booking_69 : decode b_Br_booking 69 = .ok (.ireturn, 1) := by decide +kernel
theorem d_Br_booking_70 : decode b_Br_booking 70 = .ok (.aload_n 0, 1) := by decide +kernel
theorem d_Br_booking_71 : decode b_Br_booking 71 = .ok (.getfield 26, 3) := by decide +kernel
theorem d_Br_booking_74 : decode b_Br_booking 74 = .ok (.iload_n 1, 1) := by decide +kernel
theorem d_Br_booking_75 : decode b_Br_booking 75 = .ok (.invokevirtual 97, 3) := by decide +kernel
theorem d_Br_booking_78 : decode b_Br_booking 78 = .ok (.ireturn, 1) := by decide +kernel
theorem d_Br_booking_79 : decode b_Br_booking 79 = .ok (.aload_n 0, 1) := by decide +kernel
theorem d_Br_booking_80 : decode b_Br_booking 80 = .ok (.getfield 26, 3) := by decide +kernel
