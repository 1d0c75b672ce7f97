theorem d_Mo_wish_120 : decode b_Mo_wish 120 = .ok (.ireturn, 1) := by decide +kernel
theorem d_Mo_dropWish_0 : decode b_Mo_dropWish 0 = .ok (.aload_n 0, 1) := by decide +kernel
theorem d_Mo_dropWish_1 : decode b_Mo_dropWish 1 = .ok (.dup, 1) := by decide +kernel
theorem d_Mo_dropWish_2 : decode b_Mo_dropWish 2 = .ok (.getfield 93, 3) := by decide +kernel
theorem d_Mo_dropWish_5 : decode b_Mo_dropWish 5 = .ok (.iconst 1, 1) := by decide +kernel
theorem d_Mo_dropWish_6 : decode b_Mo_dropWish 6 = .ok (.isub, 1) := by decide +kernel
theorem d_Mo_dropWish_7 : decode b_Mo_dropWish 7 = .ok (.putfield 93, 3) := by decide +kernel
theorem d_Mo_dropWish_10 : decode b_Mo_dropWish 10 = .ok (.iload_n 1, 1) := by decide +kernel
theorem d_Mo_dropWish_11 : decode b_Mo_dropWish 11 = .ok (.istore_n 2, 1) := by decide +kernel
theorem d_Mo_dropWish_12 : decode b_Mo_dropWish 12 = .ok (.iload_n 2, 1) := by decide +kernel
theorem d_Mo_dropWish_13 : decode b_Mo_dropWish 13 = .ok (.aload_n 0, 1) := by decide +kernel
theorem d_Mo_dropWish_14 : decode b_Mo_dropWish 14 = .ok (.getfield 93, 3) := by decide +kernel
theorem d_Mo_dropWish_17 : decode b_Mo_dropWish 17 = .ok (.if_icmp .ge 58, 3) := by decide +kernel
theorem d_Mo_dropWish_20 : decode b_Mo_dropWish 20 = .ok (.aload_n 0, 1) := by decide +kernel
theorem d_Mo_dropWish_21 : decode b_Mo_dropWish 21 = .ok (.getfield 34, 3) := by decide +kernel
theorem d_Mo_dropWish_24 : decode b_Mo_dropWish 24 = .ok (.iload_n 2, 1) := by decide +kernel
theorem d_Mo_dropWish_25 : decode b_Mo_dropWish 25 = .ok (.aload_n 0, 1) := by decide +kernel
theorem d_Mo_dropWish_26 : decode b_Mo_dropWish 26 = .ok (.getfield 34, 3) := by decide +kernel
theorem d_Mo_dropWish_29 : decode b_Mo_dropWish 29 = .ok (.iload_n 2, 1) := by decide +kernel
theorem d_Mo_dropWish_30 : decode b_Mo_dropWish 30 = .ok (.iconst 1, 1) := by decide +kernel
theorem d_Mo_dropWish_31 : decode b_Mo_dropWish 31 = .ok (.iadd, 1) := by decide +kernel
theorem d_Mo_dropWish_32 : decode b_Mo_dropWish 32 = .ok (.baload, 1) := by decide +kernel
theorem d_Mo_dropWish_33 : decode b_Mo_dropWish 33 = .ok (.bastore, 1) := by decide +kernel
theorem d_Mo_dropWish_34 : decode b_Mo_dropWish 34 = .ok (.iconst 0, 1) := by decide +kernel
theorem d_Mo_dropWish_35 : decode b_Mo_dropWish 35 = .ok (.istore_n 3, 1) := by decide +kernel
theorem d_Mo_dropWish_36 : decode b_Mo_dropWish 36 = .ok (.iload_n 3, 1) := by decide +kernel
theorem d_Mo_dropWish_37 : decode b_Mo_dropWish 37 = .ok (.iconst 5, 1) := by decide +kernel
theorem d_Mo_dropWish_38 : decode b_Mo_dropWish 38 = .ok (.if_icmp .ge 31, 3) := by decide +kernel
theorem d_Mo_dropWish_41 : decode b_Mo_dropWish 41 = .ok (.aload_n 0, 1) := by decide +kernel
theorem d_Mo_dropWish_42 : decode b_Mo_dropWish 42 = .ok (.getfield 22, 3) := by decide +kernel
theorem d_Mo_dropWish_45 : decode b_Mo_dropWish 45 = .ok (.iconst 5, 1) := by decide +kernel
theorem d_Mo_dropWish_46 : decode b_Mo_dropWish 46 = .ok (.iload_n 2, 1) := by decide +kernel
theorem d_Mo_dropWish_47 : decode b_Mo_dropWish 47 = .ok (.imul, 1) := by decide +kernel
theorem d_Mo_dropWish_48 : decode b_Mo_dropWish 48 = .ok (.iload_n 3, 1) := by decide +kernel
theorem d_Mo_dropWish_49 : decode b_Mo_dropWish 49 = .ok (.iadd, 1) := by decide +kernel
theorem d_Mo_dropWish_50 : decode b_Mo_dropWish 50 = .ok (.aload_n 0, 1) := by decide +kernel
theorem d_Mo_dropWish_51 : decode b_Mo_dropWish 51 = .ok (.getfield 22, 3) := by decide +kernel
theorem d_Mo_dropWish_54 : decode b_Mo_dropWish 54 = .ok (.iconst 5, 1) := by decide +kernel
theorem d_Mo_dropWish_55 : decode b_Mo_dropWish 55 = .ok (.iload_n 2, 1) := by decide +kernel
theorem d_Mo_dropWish_56 : decode b_Mo_dropWish 56 = .ok (.imul, 1) := by decide +kernel
theorem d_Mo_dropWish_57 : decode b_Mo_dropWish 57 = .ok (.iconst 5, 1) := by decide +kernel
theorem d_Mo_dropWish_58 : decode b_Mo_dropWish 58 = .ok (.iadd, 1) := by decide +kernel
theorem d_Mo_dropWish_59 : decode b_Mo_dropWish 59 = .ok (.iload_n 3, 1) := by decide +kernel
theorem d_Mo_dropWish_60 : decode b_Mo_dropWish 60 = .ok (.iadd, 1) := by decide +kernel
theorem d_Mo_dropWish_61 : decode b_Mo_dropWish 61 = .ok (.iaload, 1) := by decide +kernel
theorem d_Mo_dropWish_62 : decode b_Mo_dropWish 62 = .ok (.iastore, 1) := by decide +kernel
theorem d_Mo_dropWish_63 : decode b_Mo_dropWish 63 = .ok (.iinc 3 1, 3) := by decide +kernel
theorem d_Mo_dropWish_66 : decode b_Mo_dropWish 66 = .ok (.goto (-30), 3) := by decide +kernel
theorem d_Mo_dropWish_69 : decode b_Mo_dropWish 69 = .ok (.iinc 2 1, 3) := by decide +kernel
theorem d_Mo_dropWish_72 : decode b_Mo_dropWish 72 = .ok (.goto (-60), 3) := by decide +kernel
theorem d_Mo_dropWish_75 : decode b_Mo_dropWish 75 = .ok (.return_, 1) := by decide +kernel
theorem d_Mo_nextWish_0 : decode b_Mo_nextWish 0 = .ok (.iconst (-1), 1) := by decide +kernel
theorem d_Mo_nextWish_1 : decode b_Mo_nextWish 1 = .ok (.istore_n 2, 1) := by decide +kernel
theorem d_Mo_nextWish_2 : decode b_Mo_nextWish 2 = .ok (.iconst 0, 1) := by decide +kernel
theorem d_Mo_nextWish_3 : decode b_Mo_nextWish 3 = .ok (.istore_n 3, 1) := by decide +kernel
theorem d_Mo_nextWish_4 : decode b_Mo_nextWish 4 = .ok (.iload_n 3, 1) := by decide +kernel
theorem d_Mo_nextWish_5 : decode b_Mo_nextWish 5 = .ok (.aload_n 0, 1) := by decide +kernel
theorem d_Mo_nextWish_6 : decode b_Mo_nextWish 6 = .ok (.getfield 93, 3) := by decide +kernel
theorem d_Mo_nextWish_9 : decode b_Mo_nextWish 9 = .ok (.if_icmp .ge 62, 3) := by decide +kernel
theorem d_Mo_nextWish_12 : decode b_Mo_nextWish 12 = .ok (.aload_n 0, 1) := by decide +kernel
theorem d_Mo_nextWish_13 : decode b_Mo_nextWish 13 = .ok (.getfield 34, 3) := by decide +kernel
theorem d_Mo_nextWish_16 : decode b_Mo_nextWish 16 = .ok (.iload_n 3, 1) := by decide +kernel
theorem d_Mo_nextWish_17 : decode b_Mo_nextWish 17 = .ok (.baload, 1) := by decide +kernel
theorem d_Mo_nextWish_18 : decode b_Mo_nextWish 18 = .ok (.ifCond .ne 47, 3) := by decide +kernel
theorem d_Mo_nextWish_21 : decode b_Mo_nextWish 21 = .ok (.aload_n 0, 1) := by decide +kernel
theorem d_Mo_nextWish_22 : decode b_Mo_nextWish 22 = .ok (.getfield 22, 3) := by decide +kernel
theorem d_Mo_nextWish_25 : decode b_Mo_nextWish 25 = .ok (.iconst 5, 1) := by decide +kernel
theorem d_Mo_nextWish_26 : decode b_Mo_nextWish 26 = .ok (.iload_n 3, 1) := by decide +kernel
theorem d_Mo_nextWish_27 : decode b_Mo_nextWish 27 = .ok (.imul, 1) := by decide +kernel
theorem d_Mo_nextWish_28 : decode b_Mo_nextWish 28 = .ok (.iconst 1, 1) := by decide +kernel
theorem d_Mo_nextWish_29 : decode b_Mo_nextWish 29 = .ok (.iadd, 1) := by decide +kernel
theorem d_Mo_nextWish_30 : decode b_Mo_nextWish 30 = .ok (.iaload, 1) := by decide +kernel
theorem d_Mo_nextWish_31 : decode b_Mo_nextWish 31 = .ok (.iload_n 1, 1) := by decide +kernel
theorem d_Mo_nextWish_32 : decode b_Mo_nextWish 32 = .ok (.if_icmp .ne 33, 3) := by decide +kernel
theorem d_Mo_nextWish_35 : decode b_Mo_nextWish 35 = .ok (.iload_n 2, 1) := by decide +kernel
theorem d_Mo_nextWish_36 : decode b_Mo_nextWish 36 = .ok (.iconst (-1), 1) := by decide +kernel
theorem d_Mo_nextWish_37 : decode b_Mo_nextWish 37 = .ok (.if_icmp .eq 26, 3) := by decide +kernel
theorem d_Mo_nextWish_40 : decode b_Mo_nextWish 40 = .ok (.aload_n 0, 1) := by decide +kernel
theorem d_Mo_nextWish_41 : decode b_Mo_nextWish 41 = .ok (.getfield 22, 3) := by decide +kernel
theorem d_Mo_nextWish_44 : decode b_Mo_nextWish 44 = .ok (.iconst 5, 1) := by decide +kernel
theorem d_Mo_nextWish_45 : decode b_Mo_nextWish 45 = .ok (.iload_n 3, 1) := by decide +kernel
theorem d_Mo_nextWish_46 : decode b_Mo_nextWish 46 = .ok (.imul, 1) := by decide +kernel
theorem d_Mo_nextWish_47 : decode b_Mo_nextWish 47 = .ok (.iconst 4, 1) := by decide +kernel
theorem d_Mo_nextWish_48 : decode b_Mo_nextWish 48 = .ok (.iadd, 1) := by decide +kernel
theorem d_Mo_nextWish_49 : decode b_Mo_nextWish 49 = .ok (.iaload, 1) := by decide +kernel
theorem d_Mo_nextWish_50 : decode b_Mo_nextWish 50 = .ok (.aload_n 0, 1) := by decide +kernel
theorem d_Mo_nextWish_51 : decode b_Mo_nextWish 51 = .ok (.getfield 22, 3) := by decide +kernel
theorem d_Mo_nextWish_54 : decode b_Mo_nextWish 54 = .ok (.iconst 5, 1) := by decide +kernel
theorem d_Mo_nextWish_55 : decode b_Mo_nextWish 55 = .ok (.iload_n 2, 1) := by decide +kernel
theorem d_Mo_nextWish_56 : decode b_Mo_nextWish 56 = .ok (.imul, 1) := by decide +kernel
theorem d_Mo_nextWish_57 : decode b_Mo_nextWish 57 = .ok (.iconst 4, 1) := by decide +kernel
theorem d_Mo_nextWish_58 : decode b_Mo_nextWish 58 = .ok (.iadd, 1) := by decide +kernel
theorem d_Mo_nextWish_59 : decode b_Mo_nextWish 59 = .ok (.iaload, 1) := by decide +kernel
theorem d_Mo_nextWish_60 : decode b_Mo_nextWish 60 = .ok (.if_icmp .ge 5, 3) := by decide +kernel
theorem d_Mo_nextWish_63 : decode b_Mo_nextWish 63 = .ok (.iload_n 3, 1) := by decide +kernel
theorem d_Mo_nextWish_64 : decode b_Mo_nextWish 64 = .ok (.istore_n 2, 1) := by decide +kernel
theorem d_Mo_nextWish_65 : decode b_Mo_nextWish 65 = .ok (.iinc 3 1, 3) := by decide +kernel
theorem d_Mo_nextWish_68 : decode b_Mo_nextWish 68 = .ok (.goto (-64), 3) := by decide +kernel
theorem d_Mo_nextWish_71 : decode b_Mo_nextWish 71 = .ok (.iload_n 2, 1) := by decide +kernel
theorem d_Mo_nextWish_72 : decode b_Mo_nextWish 72 = .ok (.ireturn, 1) := by decide +kernel
theorem d_Mo_grants_0 : decode b_Mo_grants 0 = .ok (.iconst 0, 1) := by decide +kernel
theorem d_Mo_grants_1 : decode b_Mo_grants 1 = .ok (.istore_n 2, 1) := by decide +kernel
theorem d_Mo_grants_2 : decode b_Mo_grants 2 = .ok (.iload_n 2, 1) := by decide +kernel
theorem d_Mo_grants_3 : decode b_Mo_grants 3 = .ok (.bipush 60, 2) := by decide +kernel
theorem d_Mo_grants_5 : decode b_Mo_grants 5 = .ok (.if_icmp .ge 16, 3) := by decide +kernel
theorem d_Mo_grants_8 : decode b_Mo_grants 8 = .ok (.aload_n 0, 1) := by decide +kernel
theorem d_Mo_grants_9 : decode b_Mo_grants 9 = .ok (.getfield 34, 3) := by decide +kernel
theorem d_Mo_grants_12 : decode b_Mo_grants 12 = .ok (.iload_n 2, 1) := by decide +kernel
theorem d_Mo_grants_13 : decode b_Mo_grants 13 = .ok (.iconst 0, 1) := by decide +kernel
theorem d_Mo_grants_14 : decode b_Mo_grants 14 = .ok (.bastore, 1) := by decide +kernel
theorem d_Mo_grants_15 : decode b_Mo_grants 15 = .ok (.iinc 2 1, 3) := by decide +kernel
theorem d_Mo_grants_18 : decode b_Mo_grants 18 = .ok (.goto (-16), 3) := by decide +kernel
theorem d_Mo_grants_21 : decode b_Mo_grants 21 = .ok (.iconst 0, 1) := by decide +kernel
theorem d_Mo_grants_22 : decode b_Mo_grants 22 = .ok (.istore_n 2, 1) := by decide +kernel
theorem d_Mo_grants_23 : decode b_Mo_grants 23 = .ok (.aload_n 0, 1) := by decide +kernel
theorem d_Mo_grants_24 : decode b_Mo_grants 24 = .ok (.iload_n 1, 1) := by decide +kernel
theorem d_Mo_grants_25 : decode b_Mo_grants 25 = .ok (.invokevirtual 96, 3) := by decide +kernel
theorem d_Mo_grants_28 : decode b_Mo_grants 28 = .ok (.istore_n 3, 1) := by decide +kernel
theorem d_Mo_grants_29 : decode b_Mo_grants 29 = .ok (.iload_n 3, 1) := by decide +kernel
theorem d_Mo_grants_30 : decode b_Mo_grants 30 = .ok (.iconst (-1), 1) := by decide +kernel
theorem d_Mo_grants_31 : decode b_Mo_grants 31 = .ok (.if_icmp .eq 111, 3) := by decide +kernel
theorem d_Mo_grants_34 : decode b_Mo_grants 34 = .ok (.iconst 5, 1) := by decide +kernel
theorem d_Mo_grants_35 : decode b_Mo_grants 35 = .ok (.iload_n 3, 1) := by decide +kernel
theorem d_Mo_grants_36 : decode b_Mo_grants 36 = .ok (.imul, 1) := by decide +kernel
theorem d_Mo_grants_37 : decode b_Mo_grants 37 = .ok (.istore 4, 2) := by decide +kernel
theorem d_Mo_grants_39 : decode b_Mo_grants 39 = .ok (.aload_n 0, 1) := by decide +kernel
theorem d_Mo_grants_40 : decode b_Mo_grants 40 = .ok (.getfield 46, 3) := by decide +kernel
theorem d_Mo_grants_43 : decode b_Mo_grants 43 = .ok (.sipush 200, 3) := by decide +kernel
theorem d_Mo_grants_46 : decode b_Mo_grants 46 = .ok (.if_icmp .ge 80, 3) := by decide +kernel
theorem d_Mo_grants_49 : decode b_Mo_grants 49 = .ok (.aload_n 0, 1) := by decide +kernel
theorem d_Mo_grants_50 : decode b_Mo_grants 50 = .ok (.aload_n 0, 1) := by decide +kernel
theorem d_Mo_grants_51 : decode b_Mo_grants 51 = .ok (.getfield 22, 3) := by decide +kernel
theorem d_Mo_grants_54 : decode b_Mo_grants 54 = .ok (.iload 4, 2) := by decide +kernel
theorem d_Mo_grants_56 : decode b_Mo_grants 56 = .ok (.iaload, 1) := by decide +kernel
theorem d_Mo_grants_57 : decode b_Mo_grants 57 = .ok (.iload_n 1, 1) := by decide +kernel
theorem d_Mo_grants_58 : decode b_Mo_grants 58 = .ok (.aload_n 0, 1) := by decide +kernel
theorem d_Mo_grants_59 : decode b_Mo_grants 59 = .ok (.getfield 22, 3) := by decide +kernel
theorem d_Mo_grants_62 : decode b_Mo_grants 62 = .ok (.iload 4, 2) := by decide +kernel
theorem d_Mo_grants_64 : decode b_Mo_grants 64 = .ok (.iconst 2, 1) := by decide +kernel
theorem d_Mo_grants_65 : decode b_Mo_grants 65 = .ok (.iadd, 1) := by decide +kernel
theorem d_Mo_grants_66 : decode b_Mo_grants 66 = .ok (.iaload, 1) := by decide +kernel
theorem d_Mo_grants_67 : decode b_Mo_grants 67 = .ok (.aload_n 0, 1) := by decide +kernel
theorem d_Mo_grants_68 : decode b_Mo_grants 68 = .ok (.getfield 22, 3) := by decide +kernel
theorem d_Mo_grants_71 : decode b_Mo_grants 71 = .ok (.iload 4, 2) := by decide +kernel
theorem d_Mo_grants_73 : decode b_Mo_grants 73 = .ok (.iconst 3, 1) := by decide +kernel
theorem d_Mo_grants_74 : decode b_Mo_grants 74 = .ok (.iadd, 1) := by decide +kernel
theorem d_Mo_grants_75 : decode b_Mo_grants 75 = .ok (.iaload, 1) := by decide +kernel
theorem d_Mo_grants_76 : decode b_Mo_grants 76 = .ok (.iconst 0, 1) := by decide +kernel
theorem d_Mo_grants_77 : decode b_Mo_grants 77 = .ok (.invokevirtual 83, 3) := by decide +kernel
theorem d_Mo_grants_80 : decode b_Mo_grants 80 = .ok (.ifCond .ne 46, 3) := by decide +kernel
theorem d_Mo_grants_83 : decode b_Mo_grants 83 = .ok (.aload_n 0, 1) := by decide +kernel
theorem d_Mo_grants_84 : decode b_Mo_grants 84 = .ok (.aload_n 0, 1) := by decide +kernel
theorem d_Mo_grants_85 : decode b_Mo_grants 85 = .ok (.getfield 22, 3) := by decide +kernel
theorem d_Mo_grants_88 : decode b_Mo_grants 88 = .ok (.iload 4, 2) := by decide +kernel
theorem d_Mo_grants_90 : decode b_Mo_grants 90 = .ok (.iaload, 1) := by decide +kernel
theorem d_Mo_grants_91 : decode b_Mo_grants 91 = .ok (.iload_n 1, 1) := by decide +kernel
theorem d_Mo_grants_92 : decode b_Mo_grants 92 = .ok (.aload_n 0, 1) := by decide +kernel
theorem d_Mo_grants_93 : decode b_Mo_grants 93 = .ok (.getfield 22, 3) := by decide +kernel
theorem d_Mo_grants_96 : decode b_Mo_grants 96 = .ok (.iload 4, 2) := by decide +kernel
theorem d_Mo_grants_98 : decode b_Mo_grants 98 = .ok (.iconst 2, 1) := by decide +kernel
theorem d_Mo_grants_99 : decode b_Mo_grants 99 = .ok (.iadd, 1) := by decide +kernel
theorem d_Mo_grants_100 : decode b_Mo_grants 100 = .ok (.iaload, 1) := by decide +kernel
theorem d_Mo_grants_101 : decode b_Mo_grants 101 = .ok (.aload_n 0, 1) := by decide +kernel
theorem d_Mo_grants_102 : decode b_Mo_grants 102 = .ok (.getfield 22, 3) := by decide +kernel
theorem d_Mo_grants_105 : decode b_Mo_grants 105 = .ok (.iload 4, 2) := by decide +kernel
theorem d_Mo_grants_107 : decode b_Mo_grants 107 = .ok (.iconst 3, 1) := by decide +kernel
theorem d_Mo_grants_108 : decode b_Mo_grants 108 = .ok (.iadd, 1) := by decide +kernel
theorem d_Mo_grants_109 : decode b_Mo_grants 109 = .ok (.iaload, 1) := by decide +kernel
theorem d_Mo_grants_110 : decode b_Mo_grants 110 = .ok (.iconst 0, 1) := by decide +kernel
theorem d_Mo_grants_111 : decode b_Mo_grants 111 = .ok (.invokevirtual 87, 3) := by decide +kernel
theorem d_Mo_grants_114 : decode b_Mo_grants 114 = .ok (.pop, 1) := by decide +kernel
theorem d_Mo_grants_115 : decode b_Mo_grants 115 = .ok (.aload_n 0, 1) := by decide +kernel
theorem d_Mo_grants_116 : decode b_Mo_grants 116 = .ok (.iload_n 3, 1) := by decide +kernel
theorem d_Mo_grants_117 : decode b_Mo_grants 117 = .ok (.invokevirtual 99, 3) := by decide +kernel
theorem d_Mo_grants_120 : decode b_Mo_grants 120 = .ok (.iinc 2 1, 3) := by decide +kernel
theorem d_Mo_grants_123 : decode b_Mo_grants 123 = .ok (.goto 10, 3) := by decide +kernel
theorem d_Mo_grants_126 : decode b_Mo_grants 126 = .ok (.aload_n 0, 1) := by decide +kernel
theorem d_Mo_grants_127 : decode b_Mo_grants 127 = .ok (.getfield 34, 3) := by decide +kernel
theorem d_Mo_grants_130 : decode b_Mo_grants 130 = .ok (.iload_n 3, 1) := by decide +kernel
theorem d_Mo_grants_131 : decode b_Mo_grants 131 = .ok (.iconst 1, 1) := by decide +kernel
theorem d_Mo_grants_132 : decode b_Mo_grants 132 = .ok (.bastore, 1) := by decide +kernel
theorem d_Mo_grants_133 : decode b_Mo_grants 133 = .ok (.aload_n 0, 1) := by decide +kernel
theorem d_Mo_grants_134 : decode b_Mo_grants 134 = .ok (.iload_n 1, 1) := by decide +kernel
theorem d_Mo_grants_135 : decode b_Mo_grants 135 = .ok (.invokevirtual 96, 3) := by decide +kernel
theorem d_Mo_grants_138 : decode b_Mo_grants 138 = .ok (.istore_n 3, 1) := by decide +kernel
theorem d_Mo_grants_139 : decode b_Mo_grants 139 = .ok (.goto (-110), 3) := by decide +kernel
theorem d_Mo_grants_142 : decode b_Mo_grants 142 = .ok (.iload_n 2, 1) := by decide +kernel
theorem d_Mo_grants_143 : decode b_Mo_grants 143 = .ok (.ireturn, 1) := by decide +kernel
theorem d_Mo_ends_0 : decode b_Mo_ends 0 = .ok (.iconst 0, 1) := by decide +kernel
theorem d_Mo_ends_1 : decode b_Mo_ends 1 = .ok (.istore_n 3, 1) := by decide +kernel
theorem d_Mo_ends_2 : decode b_Mo_ends 2 = .ok (.aload_n 0, 1) := by decide +kernel
theorem d_Mo_ends_3 : decode b_Mo_ends 3 = .ok (.getfield 19, 3) := by decide +kernel
theorem d_Mo_ends_6 : decode b_Mo_ends 6 = .ok (.bipush 6, 2) := by decide +kernel
theorem d_Mo_ends_8 : decode b_Mo_ends 8 = .ok (.iload_n 1, 1) := by decide +kernel
theorem d_Mo_ends_9 : decode b_Mo_ends 9 = .ok (.imul, 1) := by decide +kernel
theorem d_Mo_ends_10 : decode b_Mo_ends 10 = .ok (.iconst 4, 1) := by decide +kernel
theorem d_Mo_ends_11 : decode b_Mo_ends 11 = .ok (.iadd, 1) := by decide +kernel
theorem d_Mo_ends_12 : decode b_Mo_ends 12 = .ok (.iload_n 2, 1) := by decide +kernel
theorem d_Mo_ends_13 : decode b_Mo_ends 13 = .ok (.iastore, 1) := by decide +kernel
theorem d_Mo_ends_14 : decode b_Mo_ends 14 = .ok (.iconst 1, 1) := by decide +kernel
theorem d_Mo_ends_15 : decode b_Mo_ends 15 = .ok (.istore 4, 2) := by decide +kernel
theorem d_Mo_ends_17 : decode b_Mo_ends 17 = .ok (.iload 4, 2) := by decide +kernel
theorem d_Mo_ends_19 : decode b_Mo_ends 19 = .ok (.aload_n 0, 1) := by decide +kernel
theorem d_Mo_ends_20 : decode b_Mo_ends 20 = .ok (.getfield 46, 3) := by decide +kernel
theorem d_Mo_ends_23 : decode b_Mo_ends 23 = .ok (.if_icmp .gt 74, 3) := by decide +kernel
theorem d_Mo_ends_26 : decode b_Mo_ends 26 = .ok (.aload_n 0, 1) := by decide +kernel
theorem d_Mo_ends_27 : decode b_Mo_ends 27 = .ok (.getfield 19, 3) := by decide +kernel
theorem d_Mo_ends_30 : decode b_Mo_ends 30 = .ok (.bipush 6, 2) := by decide +kernel
theorem d_Mo_ends_32 : decode b_Mo_ends 32 = .ok (.iload 4, 2) := by decide +kernel
theorem d_Mo_ends_34 : decode b_Mo_ends 34 = .ok (.imul, 1) := by decide +kernel
theorem d_Mo_ends_35 : decode b_Mo_ends 35 = .ok (.iconst 5, 1) := by decide +kernel
theorem d_Mo_ends_36 : decode b_Mo_ends 36 = .ok (.iadd, 1) := by decide +kernel
theorem d_Mo_ends_37 : decode b_Mo_ends 37 = .ok (.iaload, 1) := by decide +kernel
theorem d_Mo_ends_38 : decode b_Mo_ends 38 = .ok (.iload_n 1, 1) := by decide +kernel
theorem d_Mo_ends_39 : decode b_Mo_ends 39 = .ok (.if_icmp .ne 52, 3) := by decide +kernel
theorem d_Mo_ends_42 : decode b_Mo_ends 42 = .ok (.aload_n 0, 1) := by decide +kernel
theorem d_Mo_ends_43 : decode b_Mo_ends 43 = .ok (.getfield 19, 3) := by decide +kernel
theorem d_Mo_ends_46 : decode b_Mo_ends 46 = .ok (.bipush 6, 2) := by decide +kernel
theorem d_Mo_ends_48 : decode b_Mo_ends 48 = .ok (.iload 4, 2) := by decide +kernel
theorem d_Mo_ends_50 : decode b_Mo_ends 50 = .ok (.imul, 1) := by decide +kernel
theorem d_Mo_ends_51 : decode b_Mo_ends 51 = .ok (.iconst 4, 1) := by decide +kernel
theorem d_Mo_ends_52 : decode b_Mo_ends 52 = .ok (.iadd, 1) := by decide +kernel
theorem d_Mo_ends_53 : decode b_Mo_ends 53 = .ok (.iaload, 1) := by decide +kernel
theorem d_Mo_ends_54 : decode b_Mo_ends 54 = .ok (.ifCond .ne 37, 3) := by decide +kernel
theorem d_Mo_ends_57 : decode b_Mo_ends 57 = .ok (.aload_n 0, 1) := by decide +kernel
theorem d_Mo_ends_58 : decode b_Mo_ends 58 = .ok (.getfield 19, 3) := by decide +kernel
theorem d_Mo_ends_61 : decode b_Mo_ends 61 = .ok (.bipush 6, 2) := by decide +kernel
theorem d_Mo_ends_63 : decode b_Mo_ends 63 = .ok (.iload 4, 2) := by decide +kernel
theorem d_Mo_ends_65 : decode b_Mo_ends 65 = .ok (.imul, 1) := by decide +kernel
theorem d_Mo_ends_66 : decode b_Mo_ends 66 = .ok (.iconst 4, 1) := by decide +kernel
theorem d_Mo_ends_67 : decode b_Mo_ends 67 = .ok (.iadd, 1) := by decide +kernel
theorem d_Mo_ends_68 : decode b_Mo_ends 68 = .ok (.iload_n 2, 1) := by decide +kernel
theorem d_Mo_ends_69 : decode b_Mo_ends 69 = .ok (.iastore, 1) := by decide +kernel
theorem d_Mo_ends_70 : decode b_Mo_ends 70 = .ok (.aload_n 0, 1) := by decide +kernel
theorem d_Mo_ends_71 : decode b_Mo_ends 71 = .ok (.getfield 31, 3) := by decide +kernel
theorem d_Mo_ends_74 : decode b_Mo_ends 74 = .ok (.iload_n 3, 1) := by decide +kernel
theorem d_Mo_ends_75 : decode b_Mo_ends 75 = .ok (.aload_n 0, 1) := by decide +kernel
theorem d_Mo_ends_76 : decode b_Mo_ends 76 = .ok (.getfield 19, 3) := by decide +kernel
theorem d_Mo_ends_79 : decode b_Mo_ends 79 = .ok (.bipush 6, 2) := by decide +kernel
theorem d_Mo_ends_81 : decode b_Mo_ends 81 = .ok (.iload 4, 2) := by decide +kernel
theorem d_Mo_ends_83 : decode b_Mo_ends 83 = .ok (.imul, 1) := by decide +kernel
theorem d_Mo_ends_84 : decode b_Mo_ends 84 = .ok (.iconst 1, 1) := by decide +kernel
theorem d_Mo_ends_85 : decode b_Mo_ends 85 = .ok (.iadd, 1) := by decide +kernel
theorem d_Mo_ends_86 : decode b_Mo_ends 86 = .ok (.iaload, 1) := by decide +kernel
theorem d_Mo_ends_87 : decode b_Mo_ends 87 = .ok (.iastore, 1) := by decide +kernel
theorem d_Mo_ends_88 : decode b_Mo_ends 88 = .ok (.iinc 3 1, 3) := by decide +kernel
theorem d_Mo_ends_91 : decode b_Mo_ends 91 = .ok (.iinc 4 1, 3) := by decide +kernel
theorem d_Mo_ends_94 : decode b_Mo_ends 94 = .ok (.goto (-77), 3) := by decide +kernel
theorem d_Mo_ends_97 : decode b_Mo_ends 97 = .ok (.iload_n 3, 1) := by decide +kernel
theorem d_Mo_ends_98 : decode b_Mo_ends 98 = .ok (.ireturn, 1) := by decide +kernel
theorem d_Mo_grantAll_0 : decode b_Mo_grantAll 0 = .ok (.aload_n 0, 1) := by decide +kernel
theorem d_Mo_grantAll_1 : decode b_Mo_grantAll 1 = .ok (.aload_n 0, 1) := by decide +kernel
theorem d_Mo_grantAll_2 : decode b_Mo_grantAll 2 = .ok (.getfield 19, 3) := by decide +kernel
theorem d_Mo_grantAll_5 : decode b_Mo_grantAll 5 = .ok (.bipush 6, 2) := by decide +kernel
theorem d_Mo_grantAll_7 : decode b_Mo_grantAll 7 = .ok (.iload_n 1, 1) := by decide +kernel
theorem d_Mo_grantAll_8 : decode b_Mo_grantAll 8 = .ok (.imul, 1) := by decide +kernel
theorem d_Mo_grantAll_9 : decode b_Mo_grantAll 9 = .ok (.iconst 1, 1) := by decide +kernel
theorem d_Mo_grantAll_10 : decode b_Mo_grantAll 10 = .ok (.iadd, 1) := by decide +kernel
theorem d_Mo_grantAll_11 : decode b_Mo_grantAll 11 = .ok (.iaload, 1) := by decide +kernel
theorem d_Mo_grantAll_12 : decode b_Mo_grantAll 12 = .ok (.invokevirtual 103, 3) := by decide +kernel
theorem d_Mo_grantAll_15 : decode b_Mo_grantAll 15 = .ok (.istore_n 3, 1) := by decide +kernel
theorem d_Mo_grantAll_16 : decode b_Mo_grantAll 16 = .ok (.iconst 0, 1) := by decide +kernel
theorem d_Mo_grantAll_17 : decode b_Mo_grantAll 17 = .ok (.istore 4, 2) := by decide +kernel
theorem d_Mo_grantAll_19 : decode b_Mo_grantAll 19 = .ok (.iload 4, 2) := by decide +kernel
theorem d_Mo_grantAll_21 : decode b_Mo_grantAll 21 = .ok (.iload_n 2, 1) := by decide +kernel
theorem d_Mo_grantAll_22 : decode b_Mo_grantAll 22 = .ok (.if_icmp .ge 23, 3) := by decide +kernel
theorem d_Mo_grantAll_25 : decode b_Mo_grantAll 25 = .ok (.iload_n 3, 1) := by decide +kernel
theorem d_Mo_grantAll_26 : decode b_Mo_grantAll 26 = .ok (.aload_n 0, 1) := by decide +kernel
theorem d_Mo_grantAll_27 : decode b_Mo_grantAll 27 = .ok (.aload_n 0, 1) := by decide +kernel
theorem d_Mo_grantAll_28 : decode b_Mo_grantAll 28 = .ok (.getfield 31, 3) := by decide +kernel
theorem d_Mo_grantAll_31 : decode b_Mo_grantAll 31 = .ok (.iload 4, 2) := by decide +kernel
theorem d_Mo_grantAll_33 : decode b_Mo_grantAll 33 = .ok (.iaload, 1) := by decide +kernel
theorem d_Mo_grantAll_34 : decode b_Mo_grantAll 34 = .ok (.invokevirtual 103, 3) := by decide +kernel
theorem d_Mo_grantAll_37 : decode b_Mo_grantAll 37 = .ok (.iadd, 1) := by decide +kernel
theorem d_Mo_grantAll_38 : decode b_Mo_grantAll 38 = .ok (.istore_n 3, 1) := by decide +kernel
theorem d_Mo_grantAll_39 : decode b_Mo_grantAll 39 = .ok (.iinc 4 1, 3) := by decide +kernel
theorem d_Mo_grantAll_42 : decode b_Mo_grantAll 42 = .ok (.goto (-23), 3) := by decide +kernel
theorem d_Mo_grantAll_45 : decode b_Mo_grantAll 45 = .ok (.iload_n 3, 1) := by decide +kernel
theorem d_Mo_grantAll_46 : decode b_Mo_grantAll 46 = .ok (.ireturn, 1) := by decide +kernel
theorem d_Mo_isOf_0 : decode b_Mo_isOf 0 = .ok (.aload_n 0, 1) := by decide +kernel
theorem d_Mo_isOf_1 : decode b_Mo_isOf 1 = .ok (.iload_n 1, 1) := by decide +kernel
theorem d_Mo_isOf_2 : decode b_Mo_isOf 2 = .ok (.invokevirtual 90, 3) := by decide +kernel
theorem d_Mo_isOf_5 : decode b_Mo_isOf 5 = .ok (.ifCond .eq 34, 3) := by decide +kernel
theorem d_Mo_isOf_8 : decode b_Mo_isOf 8 = .ok (.aload_n 0, 1) := by decide +kernel
theorem d_Mo_isOf_9 : decode b_Mo_isOf 9 = .ok (.getfield 19, 3) := by decide +kernel
theorem d_Mo_isOf_12 : decode b_Mo_isOf 12 = .ok (.bipush 6, 2) := by decide +kernel
theorem d_Mo_isOf_14 : decode b_Mo_isOf 14 = .ok (.iload_n 1, 1) := by decide +kernel
theorem d_Mo_isOf_15 : decode b_Mo_isOf 15 = .ok (.imul, 1) := by decide +kernel
theorem d_Mo_isOf_16 : decode b_Mo_isOf 16 = .ok (.iconst 4, 1) := by decide +kernel
theorem d_Mo_isOf_17 : decode b_Mo_isOf 17 = .ok (.iadd, 1) := by decide +kernel
theorem d_Mo_isOf_18 : decode b_Mo_isOf 18 = .ok (.iaload, 1) := by decide +kernel
theorem d_Mo_isOf_19 : decode b_Mo_isOf 19 = .ok (.ifCond .ne 20, 3) := by decide +kernel
theorem d_Mo_isOf_22 : decode b_Mo_isOf 22 = .ok (.aload_n 0, 1) := by decide +kernel
theorem d_Mo_isOf_23 : decode b_Mo_isOf 23 = .ok (.getfield 19, 3) := by decide +kernel
theorem d_Mo_isOf_26 : decode b_Mo_isOf 26 = .ok (.bipush 6, 2) := by decide +kernel
theorem d_Mo_isOf_28 : decode b_Mo_isOf 28 = .ok (.iload_n 1, 1) := by decide +kernel
theorem d_Mo_isOf_29 : decode b_Mo_isOf 29 = .ok (.imul, 1) := by decide +kernel
theorem d_Mo_isOf_30 : decode b_Mo_isOf 30 = .ok (.iaload, 1) := by decide +kernel
theorem d_Mo_isOf_31 : decode b_Mo_isOf 31 = .ok (.iload_n 2, 1) := by decide +kernel
theorem d_Mo_isOf_32 : decode b_Mo_isOf 32 = .ok (.if_icmp .ne 7, 3) := by decide +kernel
theorem d_Mo_isOf_35 : decode b_Mo_isOf 35 = .ok (.iconst 1, 1) := by decide +kernel
theorem d_Mo_isOf_36 : decode b_Mo_isOf 36 = .ok (.goto 4, 3) := by decide +kernel
theorem d_Mo_isOf_39 : decode b_Mo_isOf 39 = .ok (.iconst 0, 1) := by decide +kernel
theorem d_Mo_isOf_40 : decode b_Mo_isOf 40 = .ok (.ireturn, 1) := by decide +kernel
theorem d_Mo_cancel_0 : decode b_Mo_cancel 0 = .ok (.aload_n 0, 1) := by decide +kernel
theorem d_Mo_cancel_1 : decode b_Mo_cancel 1 = .ok (.iconst 0, 1) := by decide +kernel
theorem d_Mo_cancel_2 : decode b_Mo_cancel 2 = .ok (.putfield 38, 3) := by decide +kernel
theorem d_Mo_cancel_5 : decode b_Mo_cancel 5 = .ok (.aload_n 0, 1) := by decide +kernel
theorem d_Mo_cancel_6 : decode b_Mo_cancel 6 = .ok (.iload_n 1, 1) := by decide +kernel
theorem d_Mo_cancel_7 : decode b_Mo_cancel 7 = .ok (.iload_n 2, 1) := by decide +kernel
theorem d_Mo_cancel_8 : decode b_Mo_cancel 8 = .ok (.invokevirtual 106, 3) := by decide +kernel
theorem d_Mo_cancel_11 : decode b_Mo_cancel 11 = .ok (.ifCond .ne 5, 3) := by decide +kernel
theorem d_Mo_cancel_14 : decode b_Mo_cancel 14 = .ok (.iconst 0, 1) := by decide +kernel
theorem d_Mo_cancel_15 : decode b_Mo_cancel 15 = .ok (.ireturn, 1) := by decide +kernel
theorem d_Mo_cancel_16 : decode b_Mo_cancel 16 = .ok (.aload_n 0, 1) := by decide +kernel
theorem d_Mo_cancel_17 : decode b_Mo_cancel 17 = .ok (.getfield 19, 3) := by decide +kernel
theorem d_Mo_cancel_20 : decode b_Mo_cancel 20 = .ok (.bipush 6, 2) := by decide +kernel
theorem d_Mo_cancel_22 : decode b_Mo_cancel 22 = .ok (.iload_n 1, 1) := by decide +kernel
theorem d_Mo_cancel_23 : decode b_Mo_cancel 23 = .ok (.imul, 1) := by decide +kernel
theorem d_Mo_cancel_24 : decode b_Mo_cancel 24 = .ok (.iconst 2, 1) := by decide +kernel
theorem d_Mo_cancel_25 : decode b_Mo_cancel 25 = .ok (.iadd, 1) := by decide +kernel
theorem d_Mo_cancel_26 : decode b_Mo_cancel 26 = .ok (.iaload, 1) := by decide +kernel
theorem d_Mo_cancel_27 : decode b_Mo_cancel 27 = .ok (.aload_n 0, 1) := by decide +kernel
theorem d_Mo_cancel_28 : decode b_Mo_cancel 28 = .ok (.getfield 67, 3) := by decide +kernel
theorem d_Mo_cancel_31 : decode b_Mo_cancel 31 = .ok (.if_icmp .gt 5, 3) := by decide +kernel
theorem d_Mo_cancel_34 : decode b_Mo_cancel 34 = .ok (.iconst (-1), 1) := by decide +kernel
theorem d_Mo_cancel_35 : decode b_Mo_cancel 35 = .ok (.ireturn, 1) := by decide +kernel
theorem d_Mo_cancel_36 : decode b_Mo_cancel 36 = .ok (.iconst 1, 1) := by decide +kernel
theorem d_Mo_cancel_37 : decode b_Mo_cancel 37 = .ok (.aload_n 0, 1) := by decide +kernel
theorem d_Mo_cancel_38 : decode b_Mo_cancel 38 = .ok (.iload_n 1, 1) := by decide +kernel
theorem d_Mo_cancel_39 : decode b_Mo_cancel 39 = .ok (.aload_n 0, 1) := by decide +kernel
theorem d_Mo_cancel_40 : decode b_Mo_cancel 40 = .ok (.iload_n 1, 1) := by decide +kernel
theorem d_Mo_cancel_41 : decode b_Mo_cancel 41 = .ok (.iconst 3, 1) := by decide +kernel
theorem d_Mo_cancel_42 : decode b_Mo_cancel 42 = .ok (.invokevirtual 110, 3) := by decide +kernel
theorem d_Mo_cancel_45 : decode b_Mo_cancel 45 = .ok (.invokevirtual 114, 3) := by decide +kernel
theorem d_Mo_cancel_48 : decode b_Mo_cancel 48 = .ok (.iadd, 1) := by decide +kernel
theorem d_Mo_cancel_49 : decode b_Mo_cancel 49 = .ok (.ireturn, 1) := by decide +kernel
theorem d_Mo_checkIn_0 : decode b_Mo_checkIn 0 = .ok (.aload_n 0, 1) := by decide +kernel
theorem d_Mo_checkIn_1 : decode b_Mo_checkIn 1 = .ok (.iconst 0, 1) := by decide +kernel
theorem d_Mo_checkIn_2 : decode b_Mo_checkIn 2 = .ok (.putfield 38, 3) := by decide +kernel
theorem d_Mo_checkIn_5 : decode b_Mo_checkIn 5 = .ok (.aload_n 0, 1) := by decide +kernel
theorem d_Mo_checkIn_6 : decode b_Mo_checkIn 6 = .ok (.iload_n 1, 1) := by decide +kernel
theorem d_Mo_checkIn_7 : decode b_Mo_checkIn 7 = .ok (.iload_n 2, 1) := by decide +kernel
theorem d_Mo_checkIn_8 : decode b_Mo_checkIn 8 = .ok (.invokevirtual 106, 3) := by decide +kernel
theorem d_Mo_checkIn_11 : decode b_Mo_checkIn 11 = .ok (.ifCond .ne 5, 3) := by decide +kernel
theorem d_Mo_checkIn_14 : decode b_Mo_checkIn 14 = .ok (.iconst 0, 1) := by decide +kernel
theorem d_Mo_checkIn_15 : decode b_Mo_checkIn 15 = .ok (.ireturn, 1) := by decide +kernel
theorem d_Mo_checkIn_16 : decode b_Mo_checkIn 16 = .ok (.aload_n 0, 1) := by decide +kernel
theorem d_Mo_checkIn_17 : decode b_Mo_checkIn 17 = .ok (.getfield 19, 3) := by decide +kernel
theorem d_Mo_checkIn_20 : decode b_Mo_checkIn 20 = .ok (.bipush 6, 2) := by decide +kernel
theorem d_Mo_checkIn_22 : decode b_Mo_checkIn 22 = .ok (.iload_n 1, 1) := by decide +kernel
theorem d_Mo_checkIn_23 : decode b_Mo_checkIn 23 = .ok (.imul, 1) := by decide +kernel
theorem d_Mo_checkIn_24 : decode b_Mo_checkIn 24 = .ok (.iconst 2, 1) := by decide +kernel
theorem d_Mo_checkIn_25 : decode b_Mo_checkIn 25 = .ok (.iadd, 1) := by decide +kernel
theorem d_Mo_checkIn_26 : decode b_Mo_checkIn 26 = .ok (.iaload, 1) := by decide +kernel
theorem d_Mo_checkIn_27 : decode b_Mo_checkIn 27 = .ok (.istore_n 3, 1) := by decide +kernel
theorem d_Mo_checkIn_28 : decode b_Mo_checkIn 28 = .ok (.aload_n 0, 1) := by decide +kernel
theorem d_Mo_checkIn_29 : decode b_Mo_checkIn 29 = .ok (.getfield 67, 3) := by decide +kernel
theorem d_Mo_checkIn_32 : decode b_Mo_checkIn 32 = .ok (.iload_n 3, 1) := by decide +kernel
theorem d_Mo_checkIn_33 : decode b_Mo_checkIn 33 = .ok (.bipush 15, 2) := by decide +kernel
theorem d_Mo_checkIn_35 : decode b_Mo_checkIn 35 = .ok (.isub, 1) := by decide +kernel
theorem d_Mo_checkIn_36 : decode b_Mo_checkIn 36 = .ok (.if_icmp .lt 32, 3) := by decide +kernel
theorem d_Mo_checkIn_39 : decode b_Mo_checkIn 39 = .ok (.aload_n 0, 1) := by decide +kernel
theorem d_Mo_checkIn_40 : decode b_Mo_checkIn 40 = .ok (.getfield 67, 3) := by decide +kernel
theorem d_Mo_checkIn_43 : decode b_Mo_checkIn 43 = .ok (.iload_n 3, 1) := by decide +kernel
theorem d_Mo_checkIn_44 : decode b_Mo_checkIn 44 = .ok (.aload_n 0, 1) := by decide +kernel
theorem d_Mo_checkIn_45 : decode b_Mo_checkIn 45 = .ok (.getfield 16, 3) := by decide +kernel
theorem d_Mo_checkIn_48 : decode b_Mo_checkIn 48 = .ok (.iconst 5, 1) := by decide +kernel
theorem d_Mo_checkIn_49 : decode b_Mo_checkIn 49 = .ok (.aload_n 0, 1) := by decide +kernel
theorem d_Mo_checkIn_50 : decode b_Mo_checkIn 50 = .ok (.getfield 19, 3) := by decide +kernel
theorem d_Mo_checkIn_53 : decode b_Mo_checkIn 53 = .ok (.bipush 6, 2) := by decide +kernel
theorem d_Mo_checkIn_55 : decode b_Mo_checkIn 55 = .ok (.iload_n 1, 1) := by decide +kernel
theorem d_Mo_checkIn_56 : decode b_Mo_checkIn 56 = .ok (.imul, 1) := by decide +kernel
theorem d_Mo_checkIn_57 : decode b_Mo_checkIn 57 = .ok (.iconst 1, 1) := by decide +kernel
theorem d_Mo_checkIn_58 : decode b_Mo_checkIn 58 = .ok (.iadd, 1) := by decide +kernel
theorem d_Mo_checkIn_59 : decode b_Mo_checkIn 59 = .ok (.iaload, 1) := by decide +kernel
theorem d_Mo_checkIn_60 : decode b_Mo_checkIn 60 = .ok (.imul, 1) := by decide +kernel
theorem d_Mo_checkIn_61 : decode b_Mo_checkIn 61 = .ok (.iconst 4, 1) := by decide +kernel
theorem d_Mo_checkIn_62 : decode b_Mo_checkIn 62 = .ok (.iadd, 1) := by decide +kernel
theorem d_Mo_checkIn_63 : decode b_Mo_checkIn 63 = .ok (.iaload, 1) := by decide +kernel
theorem d_Mo_checkIn_64 : decode b_Mo_checkIn 64 = .ok (.iadd, 1) := by decide +kernel
theorem d_Mo_checkIn_65 : decode b_Mo_checkIn 65 = .ok (.if_icmp .le 5, 3) := by decide +kernel
theorem d_Mo_checkIn_68 : decode b_Mo_checkIn 68 = .ok (.iconst (-1), 1) := by decide +kernel
theorem d_Mo_checkIn_69 : decode b_Mo_checkIn 69 = .ok (.ireturn, 1) := by decide +kernel
theorem d_Mo_checkIn_70 : decode b_Mo_checkIn 70 = .ok (.aload_n 0, 1) := by decide +kernel
theorem d_Mo_checkIn_71 : decode b_Mo_checkIn 71 = .ok (.iload_n 1, 1) := by decide +kernel
theorem d_Mo_checkIn_72 : decode b_Mo_checkIn 72 = .ok (.iconst 1, 1) := by decide +kernel
theorem d_Mo_checkIn_73 : decode b_Mo_checkIn 73 = .ok (.invokevirtual 110, 3) := by decide +kernel
theorem d_Mo_checkIn_76 : decode b_Mo_checkIn 76 = .ok (.istore 4, 2) := by decide +kernel
theorem d_Mo_checkIn_78 : decode b_Mo_checkIn 78 = .ok (.iload 4, 2) := by decide +kernel
theorem d_Mo_checkIn_80 : decode b_Mo_checkIn 80 = .ok (.ifCond .ge 7, 3) := by decide +kernel
theorem d_Mo_checkIn_83 : decode b_Mo_checkIn 83 = .ok (.iconst 0, 1) := by decide +kernel
theorem d_Mo_checkIn_84 : decode b_Mo_checkIn 84 = .ok (.goto 4, 3) := by decide +kernel
theorem d_Mo_checkIn_87 : decode b_Mo_checkIn 87 = .ok (.iconst 1, 1) := by decide +kernel
theorem d_Mo_checkIn_88 : decode b_Mo_checkIn 88 = .ok (.ireturn, 1) := by decide +kernel
theorem d_Mo_isMain_0 : decode b_Mo_isMain 0 = .ok (.iconst 0, 1) := by decide +kernel
theorem d_Mo_isMain_1 : decode b_Mo_isMain 1 = .ok (.istore_n 2, 1) := by decide +kernel
theorem d_Mo_isMain_2 : decode b_Mo_isMain 2 = .ok (.iconst 1, 1) := by decide +kernel
theorem d_Mo_isMain_3 : decode b_Mo_isMain 3 = .ok (.istore_n 3, 1) := by decide +kernel
theorem d_Mo_isMain_4 : decode b_Mo_isMain 4 = .ok (.iload_n 3, 1) := by decide +kernel
