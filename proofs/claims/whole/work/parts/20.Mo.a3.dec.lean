theorem d_Mo_isMain_5 : decode b_Mo_isMain 5 = .ok (.aload_n 0, 1) := by decide +kernel
theorem d_Mo_isMain_6 : decode b_Mo_isMain 6 = .ok (.getfield 46, 3) := by decide +kernel
theorem d_Mo_isMain_9 : decode b_Mo_isMain 9 = .ok (.if_icmp .gt 42, 3) := by decide +kernel
theorem d_Mo_isMain_12 : decode b_Mo_isMain 12 = .ok (.iload_n 2, 1) := by decide +kernel
theorem d_Mo_isMain_13 : decode b_Mo_isMain 13 = .ok (.ifCond .ne 26, 3) := by decide +kernel
theorem d_Mo_isMain_16 : decode b_Mo_isMain 16 = .ok (.aload_n 0, 1) := by decide +kernel
theorem d_Mo_isMain_17 : decode b_Mo_isMain 17 = .ok (.getfield 19, 3) := by decide +kernel
theorem d_Mo_isMain_20 : decode b_Mo_isMain 20 = .ok (.bipush 6, 2) := by decide +kernel
theorem d_Mo_isMain_22 : decode b_Mo_isMain 22 = .ok (.iload_n 3, 1) := by decide +kernel
theorem d_Mo_isMain_23 : decode b_Mo_isMain 23 = .ok (.imul, 1) := by decide +kernel
theorem d_Mo_isMain_24 : decode b_Mo_isMain 24 = .ok (.iconst 5, 1) := by decide +kernel
theorem d_Mo_isMain_25 : decode b_Mo_isMain 25 = .ok (.iadd, 1) := by decide +kernel
theorem d_Mo_isMain_26 : decode b_Mo_isMain 26 = .ok (.iaload, 1) := by decide +kernel
theorem d_Mo_isMain_27 : decode b_Mo_isMain 27 = .ok (.iload_n 1, 1) := by decide +kernel
theorem d_Mo_isMain_28 : decode b_Mo_isMain 28 = .ok (.if_icmp .ne 15, 3) := by decide +kernel
theorem d_Mo_isMain_31 : decode b_Mo_isMain 31 = .ok (.aload_n 0, 1) := by decide +kernel
theorem d_Mo_isMain_32 : decode b_Mo_isMain 32 = .ok (.iload_n 3, 1) := by decide +kernel
theorem d_Mo_isMain_33 : decode b_Mo_isMain 33 = .ok (.invokevirtual 57, 3) := by decide +kernel
theorem d_Mo_isMain_36 : decode b_Mo_isMain 36 = .ok (.ifCond .eq 7, 3) := by decide +kernel
theorem d_Mo_isMain_39 : decode b_Mo_isMain 39 = .ok (.iconst 1, 1) := by decide +kernel
theorem d_Mo_isMain_40 : decode b_Mo_isMain 40 = .ok (.goto 4, 3) := by decide +kernel
theorem d_Mo_isMain_43 : decode b_Mo_isMain 43 = .ok (.iconst 0, 1) := by decide +kernel
theorem d_Mo_isMain_44 : decode b_Mo_isMain 44 = .ok (.istore_n 2, 1) := by decide +kernel
theorem d_Mo_isMain_45 : decode b_Mo_isMain 45 = .ok (.iinc 3 1, 3) := by decide +kernel
theorem d_Mo_isMain_48 : decode b_Mo_isMain 48 = .ok (.goto (-44), 3) := by decide +kernel
theorem d_Mo_isMain_51 : decode b_Mo_isMain 51 = .ok (.iload_n 2, 1) := by decide +kernel
theorem d_Mo_isMain_52 : decode b_Mo_isMain 52 = .ok (.ireturn, 1) := by decide +kernel
theorem d_Mo_edit_0 : decode b_Mo_edit 0 = .ok (.aload_n 0, 1) := by decide +kernel
theorem d_Mo_edit_1 : decode b_Mo_edit 1 = .ok (.iconst 0, 1) := by decide +kernel
theorem d_Mo_edit_2 : decode b_Mo_edit 2 = .ok (.putfield 38, 3) := by decide +kernel
theorem d_Mo_edit_5 : decode b_Mo_edit 5 = .ok (.aload_n 0, 1) := by decide +kernel
theorem d_Mo_edit_6 : decode b_Mo_edit 6 = .ok (.iload_n 1, 1) := by decide +kernel
theorem d_Mo_edit_7 : decode b_Mo_edit 7 = .ok (.iload_n 2, 1) := by decide +kernel
theorem d_Mo_edit_8 : decode b_Mo_edit 8 = .ok (.invokevirtual 106, 3) := by decide +kernel
theorem d_Mo_edit_11 : decode b_Mo_edit 11 = .ok (.ifCond .eq 25, 3) := by decide +kernel
theorem d_Mo_edit_14 : decode b_Mo_edit 14 = .ok (.aload_n 0, 1) := by decide +kernel
theorem d_Mo_edit_15 : decode b_Mo_edit 15 = .ok (.getfield 19, 3) := by decide +kernel
theorem d_Mo_edit_18 : decode b_Mo_edit 18 = .ok (.bipush 6, 2) := by decide +kernel
theorem d_Mo_edit_20 : decode b_Mo_edit 20 = .ok (.iload_n 1, 1) := by decide +kernel
theorem d_Mo_edit_21 : decode b_Mo_edit 21 = .ok (.imul, 1) := by decide +kernel
theorem d_Mo_edit_22 : decode b_Mo_edit 22 = .ok (.iconst 5, 1) := by decide +kernel
theorem d_Mo_edit_23 : decode b_Mo_edit 23 = .ok (.iadd, 1) := by decide +kernel
theorem d_Mo_edit_24 : decode b_Mo_edit 24 = .ok (.iaload, 1) := by decide +kernel
theorem d_Mo_edit_25 : decode b_Mo_edit 25 = .ok (.ifCond .ne 11, 3) := by decide +kernel
theorem d_Mo_edit_28 : decode b_Mo_edit 28 = .ok (.aload_n 0, 1) := by decide +kernel
theorem d_Mo_edit_29 : decode b_Mo_edit 29 = .ok (.iload_n 1, 1) := by decide +kernel
theorem d_Mo_edit_30 : decode b_Mo_edit 30 = .ok (.invokevirtual 117, 3) := by decide +kernel
theorem d_Mo_edit_33 : decode b_Mo_edit 33 = .ok (.ifCond .eq 5, 3) := by decide +kernel
theorem d_Mo_edit_36 : decode b_Mo_edit 36 = .ok (.iconst 0, 1) := by decide +kernel
theorem d_Mo_edit_37 : decode b_Mo_edit 37 = .ok (.ireturn, 1) := by decide +kernel
theorem d_Mo_edit_38 : decode b_Mo_edit 38 = .ok (.aload_n 0, 1) := by decide +kernel
theorem d_Mo_edit_39 : decode b_Mo_edit 39 = .ok (.iload_n 2, 1) := by decide +kernel
theorem d_Mo_edit_40 : decode b_Mo_edit 40 = .ok (.aload_n 0, 1) := by decide +kernel
theorem d_Mo_edit_41 : decode b_Mo_edit 41 = .ok (.getfield 19, 3) := by decide +kernel
theorem d_Mo_edit_44 : decode b_Mo_edit 44 = .ok (.bipush 6, 2) := by decide +kernel
theorem d_Mo_edit_46 : decode b_Mo_edit 46 = .ok (.iload_n 1, 1) := by decide +kernel
theorem d_Mo_edit_47 : decode b_Mo_edit 47 = .ok (.imul, 1) := by decide +kernel
theorem d_Mo_edit_48 : decode b_Mo_edit 48 = .ok (.iconst 1, 1) := by decide +kernel
theorem d_Mo_edit_49 : decode b_Mo_edit 49 = .ok (.iadd, 1) := by decide +kernel
theorem d_Mo_edit_50 : decode b_Mo_edit 50 = .ok (.iaload, 1) := by decide +kernel
theorem d_Mo_edit_51 : decode b_Mo_edit 51 = .ok (.iload_n 3, 1) := by decide +kernel
theorem d_Mo_edit_52 : decode b_Mo_edit 52 = .ok (.iload 4, 2) := by decide +kernel
theorem d_Mo_edit_54 : decode b_Mo_edit 54 = .ok (.iload_n 1, 1) := by decide +kernel
theorem d_Mo_edit_55 : decode b_Mo_edit 55 = .ok (.invokevirtual 83, 3) := by decide +kernel
theorem d_Mo_edit_58 : decode b_Mo_edit 58 = .ok (.istore 5, 2) := by decide +kernel
theorem d_Mo_edit_60 : decode b_Mo_edit 60 = .ok (.iload 5, 2) := by decide +kernel
theorem d_Mo_edit_62 : decode b_Mo_edit 62 = .ok (.ifCond .ge 6, 3) := by decide +kernel
theorem d_Mo_edit_65 : decode b_Mo_edit 65 = .ok (.iload 5, 2) := by decide +kernel
theorem d_Mo_edit_67 : decode b_Mo_edit 67 = .ok (.ireturn, 1) := by decide +kernel
theorem d_Mo_edit_68 : decode b_Mo_edit 68 = .ok (.aload_n 0, 1) := by decide +kernel
theorem d_Mo_edit_69 : decode b_Mo_edit 69 = .ok (.getfield 19, 3) := by decide +kernel
theorem d_Mo_edit_72 : decode b_Mo_edit 72 = .ok (.bipush 6, 2) := by decide +kernel
theorem d_Mo_edit_74 : decode b_Mo_edit 74 = .ok (.iload_n 1, 1) := by decide +kernel
theorem d_Mo_edit_75 : decode b_Mo_edit 75 = .ok (.imul, 1) := by decide +kernel
theorem d_Mo_edit_76 : decode b_Mo_edit 76 = .ok (.iconst 2, 1) := by decide +kernel
theorem d_Mo_edit_77 : decode b_Mo_edit 77 = .ok (.iadd, 1) := by decide +kernel
theorem d_Mo_edit_78 : decode b_Mo_edit 78 = .ok (.iload_n 3, 1) := by decide +kernel
theorem d_Mo_edit_79 : decode b_Mo_edit 79 = .ok (.iastore, 1) := by decide +kernel
theorem d_Mo_edit_80 : decode b_Mo_edit 80 = .ok (.aload_n 0, 1) := by decide +kernel
theorem d_Mo_edit_81 : decode b_Mo_edit 81 = .ok (.getfield 19, 3) := by decide +kernel
theorem d_Mo_edit_84 : decode b_Mo_edit 84 = .ok (.bipush 6, 2) := by decide +kernel
theorem d_Mo_edit_86 : decode b_Mo_edit 86 = .ok (.iload_n 1, 1) := by decide +kernel
theorem d_Mo_edit_87 : decode b_Mo_edit 87 = .ok (.imul, 1) := by decide +kernel
theorem d_Mo_edit_88 : decode b_Mo_edit 88 = .ok (.iconst 3, 1) := by decide +kernel
theorem d_Mo_edit_89 : decode b_Mo_edit 89 = .ok (.iadd, 1) := by decide +kernel
theorem d_Mo_edit_90 : decode b_Mo_edit 90 = .ok (.iload 4, 2) := by decide +kernel
theorem d_Mo_edit_92 : decode b_Mo_edit 92 = .ok (.iastore, 1) := by decide +kernel
theorem d_Mo_edit_93 : decode b_Mo_edit 93 = .ok (.iconst 1, 1) := by decide +kernel
theorem d_Mo_edit_94 : decode b_Mo_edit 94 = .ok (.ireturn, 1) := by decide +kernel
theorem d_Mo_equip_0 : decode b_Mo_equip 0 = .ok (.aload_n 0, 1) := by decide +kernel
theorem d_Mo_equip_1 : decode b_Mo_equip 1 = .ok (.iconst 0, 1) := by decide +kernel
theorem d_Mo_equip_2 : decode b_Mo_equip 2 = .ok (.putfield 38, 3) := by decide +kernel
theorem d_Mo_equip_5 : decode b_Mo_equip 5 = .ok (.aload_n 0, 1) := by decide +kernel
theorem d_Mo_equip_6 : decode b_Mo_equip 6 = .ok (.iload_n 1, 1) := by decide +kernel
theorem d_Mo_equip_7 : decode b_Mo_equip 7 = .ok (.invokevirtual 90, 3) := by decide +kernel
theorem d_Mo_equip_10 : decode b_Mo_equip 10 = .ok (.ifCond .eq 49, 3) := by decide +kernel
theorem d_Mo_equip_13 : decode b_Mo_equip 13 = .ok (.aload_n 0, 1) := by decide +kernel
theorem d_Mo_equip_14 : decode b_Mo_equip 14 = .ok (.getfield 19, 3) := by decide +kernel
theorem d_Mo_equip_17 : decode b_Mo_equip 17 = .ok (.bipush 6, 2) := by decide +kernel
theorem d_Mo_equip_19 : decode b_Mo_equip 19 = .ok (.iload_n 1, 1) := by decide +kernel
theorem d_Mo_equip_20 : decode b_Mo_equip 20 = .ok (.imul, 1) := by decide +kernel
theorem d_Mo_equip_21 : decode b_Mo_equip 21 = .ok (.iconst 4, 1) := by decide +kernel
theorem d_Mo_equip_22 : decode b_Mo_equip 22 = .ok (.iadd, 1) := by decide +kernel
theorem d_Mo_equip_23 : decode b_Mo_equip 23 = .ok (.iaload, 1) := by decide +kernel
theorem d_Mo_equip_24 : decode b_Mo_equip 24 = .ok (.ifCond .ne 35, 3) := by decide +kernel
theorem d_Mo_equip_27 : decode b_Mo_equip 27 = .ok (.aload_n 0, 1) := by decide +kernel
theorem d_Mo_equip_28 : decode b_Mo_equip 28 = .ok (.getfield 19, 3) := by decide +kernel
theorem d_Mo_equip_31 : decode b_Mo_equip 31 = .ok (.bipush 6, 2) := by decide +kernel
theorem d_Mo_equip_33 : decode b_Mo_equip 33 = .ok (.iload_n 1, 1) := by decide +kernel
theorem d_Mo_equip_34 : decode b_Mo_equip 34 = .ok (.imul, 1) := by decide +kernel
theorem d_Mo_equip_35 : decode b_Mo_equip 35 = .ok (.iconst 5, 1) := by decide +kernel
theorem d_Mo_equip_36 : decode b_Mo_equip 36 = .ok (.iadd, 1) := by decide +kernel
theorem d_Mo_equip_37 : decode b_Mo_equip 37 = .ok (.iaload, 1) := by decide +kernel
theorem d_Mo_equip_38 : decode b_Mo_equip 38 = .ok (.ifCond .ne 21, 3) := by decide +kernel
theorem d_Mo_equip_41 : decode b_Mo_equip 41 = .ok (.aload_n 0, 1) := by decide +kernel
theorem d_Mo_equip_42 : decode b_Mo_equip 42 = .ok (.iload_n 2, 1) := by decide +kernel
theorem d_Mo_equip_43 : decode b_Mo_equip 43 = .ok (.invokevirtual 80, 3) := by decide +kernel
theorem d_Mo_equip_46 : decode b_Mo_equip 46 = .ok (.ifCond .eq 13, 3) := by decide +kernel
theorem d_Mo_equip_49 : decode b_Mo_equip 49 = .ok (.aload_n 0, 1) := by decide +kernel
theorem d_Mo_equip_50 : decode b_Mo_equip 50 = .ok (.getfield 46, 3) := by decide +kernel
theorem d_Mo_equip_53 : decode b_Mo_equip 53 = .ok (.sipush 200, 3) := by decide +kernel
theorem d_Mo_equip_56 : decode b_Mo_equip 56 = .ok (.if_icmp .ne 5, 3) := by decide +kernel
theorem d_Mo_equip_59 : decode b_Mo_equip 59 = .ok (.iconst 0, 1) := by decide +kernel
theorem d_Mo_equip_60 : decode b_Mo_equip 60 = .ok (.ireturn, 1) := by decide +kernel
theorem d_Mo_equip_61 : decode b_Mo_equip 61 = .ok (.bipush 6, 2) := by decide +kernel
theorem d_Mo_equip_63 : decode b_Mo_equip 63 = .ok (.iload_n 1, 1) := by decide +kernel
theorem d_Mo_equip_64 : decode b_Mo_equip 64 = .ok (.imul, 1) := by decide +kernel
theorem d_Mo_equip_65 : decode b_Mo_equip 65 = .ok (.istore_n 3, 1) := by decide +kernel
theorem d_Mo_equip_66 : decode b_Mo_equip 66 = .ok (.iload_n 2, 1) := by decide +kernel
theorem d_Mo_equip_67 : decode b_Mo_equip 67 = .ok (.aload_n 0, 1) := by decide +kernel
theorem d_Mo_equip_68 : decode b_Mo_equip 68 = .ok (.getfield 19, 3) := by decide +kernel
theorem d_Mo_equip_71 : decode b_Mo_equip 71 = .ok (.iload_n 3, 1) := by decide +kernel
theorem d_Mo_equip_72 : decode b_Mo_equip 72 = .ok (.iconst 1, 1) := by decide +kernel
theorem d_Mo_equip_73 : decode b_Mo_equip 73 = .ok (.iadd, 1) := by decide +kernel
theorem d_Mo_equip_74 : decode b_Mo_equip 74 = .ok (.iaload, 1) := by decide +kernel
theorem d_Mo_equip_75 : decode b_Mo_equip 75 = .ok (.if_icmp .eq 29, 3) := by decide +kernel
theorem d_Mo_equip_78 : decode b_Mo_equip 78 = .ok (.aload_n 0, 1) := by decide +kernel
theorem d_Mo_equip_79 : decode b_Mo_equip 79 = .ok (.getfield 16, 3) := by decide +kernel
theorem d_Mo_equip_82 : decode b_Mo_equip 82 = .ok (.iconst 5, 1) := by decide +kernel
theorem d_Mo_equip_83 : decode b_Mo_equip 83 = .ok (.iload_n 2, 1) := by decide +kernel
theorem d_Mo_equip_84 : decode b_Mo_equip 84 = .ok (.imul, 1) := by decide +kernel
theorem d_Mo_equip_85 : decode b_Mo_equip 85 = .ok (.iaload, 1) := by decide +kernel
theorem d_Mo_equip_86 : decode b_Mo_equip 86 = .ok (.aload_n 0, 1) := by decide +kernel
theorem d_Mo_equip_87 : decode b_Mo_equip 87 = .ok (.getfield 16, 3) := by decide +kernel
theorem d_Mo_equip_90 : decode b_Mo_equip 90 = .ok (.iconst 5, 1) := by decide +kernel
theorem d_Mo_equip_91 : decode b_Mo_equip 91 = .ok (.aload_n 0, 1) := by decide +kernel
theorem d_Mo_equip_92 : decode b_Mo_equip 92 = .ok (.getfield 19, 3) := by decide +kernel
theorem d_Mo_equip_95 : decode b_Mo_equip 95 = .ok (.iload_n 3, 1) := by decide +kernel
theorem d_Mo_equip_96 : decode b_Mo_equip 96 = .ok (.iconst 1, 1) := by decide +kernel
theorem d_Mo_equip_97 : decode b_Mo_equip 97 = .ok (.iadd, 1) := by decide +kernel
theorem d_Mo_equip_98 : decode b_Mo_equip 98 = .ok (.iaload, 1) := by decide +kernel
theorem d_Mo_equip_99 : decode b_Mo_equip 99 = .ok (.imul, 1) := by decide +kernel
theorem d_Mo_equip_100 : decode b_Mo_equip 100 = .ok (.iaload, 1) := by decide +kernel
theorem d_Mo_equip_101 : decode b_Mo_equip 101 = .ok (.if_icmp .eq 5, 3) := by decide +kernel
theorem d_Mo_equip_104 : decode b_Mo_equip 104 = .ok (.iconst 0, 1) := by decide +kernel
theorem d_Mo_equip_105 : decode b_Mo_equip 105 = .ok (.ireturn, 1) := by decide +kernel
theorem d_Mo_equip_106 : decode b_Mo_equip 106 = .ok (.aload_n 0, 1) := by decide +kernel
theorem d_Mo_equip_107 : decode b_Mo_equip 107 = .ok (.iload_n 2, 1) := by decide +kernel
theorem d_Mo_equip_108 : decode b_Mo_equip 108 = .ok (.aload_n 0, 1) := by decide +kernel
theorem d_Mo_equip_109 : decode b_Mo_equip 109 = .ok (.getfield 19, 3) := by decide +kernel
theorem d_Mo_equip_112 : decode b_Mo_equip 112 = .ok (.iload_n 3, 1) := by decide +kernel
theorem d_Mo_equip_113 : decode b_Mo_equip 113 = .ok (.iconst 2, 1) := by decide +kernel
theorem d_Mo_equip_114 : decode b_Mo_equip 114 = .ok (.iadd, 1) := by decide +kernel
theorem d_Mo_equip_115 : decode b_Mo_equip 115 = .ok (.iaload, 1) := by decide +kernel
theorem d_Mo_equip_116 : decode b_Mo_equip 116 = .ok (.aload_n 0, 1) := by decide +kernel
theorem d_Mo_equip_117 : decode b_Mo_equip 117 = .ok (.getfield 19, 3) := by decide +kernel
theorem d_Mo_equip_120 : decode b_Mo_equip 120 = .ok (.iload_n 3, 1) := by decide +kernel
theorem d_Mo_equip_121 : decode b_Mo_equip 121 = .ok (.iconst 3, 1) := by decide +kernel
theorem d_Mo_equip_122 : decode b_Mo_equip 122 = .ok (.iadd, 1) := by decide +kernel
theorem d_Mo_equip_123 : decode b_Mo_equip 123 = .ok (.iaload, 1) := by decide +kernel
theorem d_Mo_equip_124 : decode b_Mo_equip 124 = .ok (.iconst 0, 1) := by decide +kernel
theorem d_Mo_equip_125 : decode b_Mo_equip 125 = .ok (.invokevirtual 74, 3) := by decide +kernel
theorem d_Mo_equip_128 : decode b_Mo_equip 128 = .ok (.ifCond .eq 8, 3) := by decide +kernel
theorem d_Mo_equip_131 : decode b_Mo_equip 131 = .ok (.bipush (-6), 2) := by decide +kernel
theorem d_Mo_equip_133 : decode b_Mo_equip 133 = .ok (.goto 31, 3) := by decide +kernel
theorem d_Mo_equip_136 : decode b_Mo_equip 136 = .ok (.aload_n 0, 1) := by decide +kernel
theorem d_Mo_equip_137 : decode b_Mo_equip 137 = .ok (.aload_n 0, 1) := by decide +kernel
theorem d_Mo_equip_138 : decode b_Mo_equip 138 = .ok (.getfield 19, 3) := by decide +kernel
theorem d_Mo_equip_141 : decode b_Mo_equip 141 = .ok (.iload_n 3, 1) := by decide +kernel
theorem d_Mo_equip_142 : decode b_Mo_equip 142 = .ok (.iaload, 1) := by decide +kernel
theorem d_Mo_equip_143 : decode b_Mo_equip 143 = .ok (.iload_n 2, 1) := by decide +kernel
theorem d_Mo_equip_144 : decode b_Mo_equip 144 = .ok (.aload_n 0, 1) := by decide +kernel
theorem d_Mo_equip_145 : decode b_Mo_equip 145 = .ok (.getfield 19, 3) := by decide +kernel
theorem d_Mo_equip_148 : decode b_Mo_equip 148 = .ok (.iload_n 3, 1) := by decide +kernel
theorem d_Mo_equip_149 : decode b_Mo_equip 149 = .ok (.iconst 2, 1) := by decide +kernel
theorem d_Mo_equip_150 : decode b_Mo_equip 150 = .ok (.iadd, 1) := by decide +kernel
theorem d_Mo_equip_151 : decode b_Mo_equip 151 = .ok (.iaload, 1) := by decide +kernel
theorem d_Mo_equip_152 : decode b_Mo_equip 152 = .ok (.aload_n 0, 1) := by decide +kernel
theorem d_Mo_equip_153 : decode b_Mo_equip 153 = .ok (.getfield 19, 3) := by decide +kernel
theorem d_Mo_equip_156 : decode b_Mo_equip 156 = .ok (.iload_n 3, 1) := by decide +kernel
theorem d_Mo_equip_157 : decode b_Mo_equip 157 = .ok (.iconst 3, 1) := by decide +kernel
theorem d_Mo_equip_158 : decode b_Mo_equip 158 = .ok (.iadd, 1) := by decide +kernel
theorem d_Mo_equip_159 : decode b_Mo_equip 159 = .ok (.iaload, 1) := by decide +kernel
theorem d_Mo_equip_160 : decode b_Mo_equip 160 = .ok (.iload_n 1, 1) := by decide +kernel
theorem d_Mo_equip_161 : decode b_Mo_equip 161 = .ok (.invokevirtual 87, 3) := by decide +kernel
theorem d_Mo_equip_164 : decode b_Mo_equip 164 = .ok (.ireturn, 1) := by decide +kernel
theorem d_Mo_tick_0 : decode b_Mo_tick 0 = .ok (.aload_n 0, 1) := by decide +kernel
theorem d_Mo_tick_1 : decode b_Mo_tick 1 = .ok (.iconst 0, 1) := by decide +kernel
theorem d_Mo_tick_2 : decode b_Mo_tick 2 = .ok (.putfield 38, 3) := by decide +kernel
theorem d_Mo_tick_5 : decode b_Mo_tick 5 = .ok (.iload_n 1, 1) := by decide +kernel
theorem d_Mo_tick_6 : decode b_Mo_tick 6 = .ok (.aload_n 0, 1) := by decide +kernel
theorem d_Mo_tick_7 : decode b_Mo_tick 7 = .ok (.getfield 67, 3) := by decide +kernel
theorem d_Mo_tick_10 : decode b_Mo_tick 10 = .ok (.if_icmp .le 9, 3) := by decide +kernel
theorem d_Mo_tick_13 : decode b_Mo_tick 13 = .ok (.iload_n 1, 1) := by decide +kernel
theorem d_Mo_tick_14 : decode b_Mo_tick 14 = .ok (.ldc 42, 2) := by decide +kernel
theorem d_Mo_tick_16 : decode b_Mo_tick 16 = .ok (.if_icmp .le 5, 3) := by decide +kernel
theorem d_Mo_tick_19 : decode b_Mo_tick 19 = .ok (.iconst (-1), 1) := by decide +kernel
theorem d_Mo_tick_20 : decode b_Mo_tick 20 = .ok (.ireturn, 1) := by decide +kernel
theorem d_Mo_tick_21 : decode b_Mo_tick 21 = .ok (.aload_n 0, 1) := by decide +kernel
theorem d_Mo_tick_22 : decode b_Mo_tick 22 = .ok (.iload_n 1, 1) := by decide +kernel
theorem d_Mo_tick_23 : decode b_Mo_tick 23 = .ok (.putfield 67, 3) := by decide +kernel
theorem d_Mo_tick_26 : decode b_Mo_tick 26 = .ok (.iconst 1, 1) := by decide +kernel
theorem d_Mo_tick_27 : decode b_Mo_tick 27 = .ok (.istore_n 2, 1) := by decide +kernel
theorem d_Mo_tick_28 : decode b_Mo_tick 28 = .ok (.iload_n 2, 1) := by decide +kernel
theorem d_Mo_tick_29 : decode b_Mo_tick 29 = .ok (.aload_n 0, 1) := by decide +kernel
theorem d_Mo_tick_30 : decode b_Mo_tick 30 = .ok (.getfield 46, 3) := by decide +kernel
theorem d_Mo_tick_33 : decode b_Mo_tick 33 = .ok (.if_icmp .gt 65, 3) := by decide +kernel
theorem d_Mo_tick_36 : decode b_Mo_tick 36 = .ok (.aload_n 0, 1) := by decide +kernel
theorem d_Mo_tick_37 : decode b_Mo_tick 37 = .ok (.getfield 19, 3) := by decide +kernel
theorem d_Mo_tick_40 : decode b_Mo_tick 40 = .ok (.bipush 6, 2) := by decide +kernel
theorem d_Mo_tick_42 : decode b_Mo_tick 42 = .ok (.iload_n 2, 1) := by decide +kernel
theorem d_Mo_tick_43 : decode b_Mo_tick 43 = .ok (.imul, 1) := by decide +kernel
theorem d_Mo_tick_44 : decode b_Mo_tick 44 = .ok (.iconst 4, 1) := by decide +kernel
theorem d_Mo_tick_45 : decode b_Mo_tick 45 = .ok (.iadd, 1) := by decide +kernel
theorem d_Mo_tick_46 : decode b_Mo_tick 46 = .ok (.aload_n 0, 1) := by decide +kernel
theorem d_Mo_tick_47 : decode b_Mo_tick 47 = .ok (.getfield 19, 3) := by decide +kernel
theorem d_Mo_tick_50 : decode b_Mo_tick 50 = .ok (.bipush 6, 2) := by decide +kernel
theorem d_Mo_tick_52 : decode b_Mo_tick 52 = .ok (.iload_n 2, 1) := by decide +kernel
theorem d_Mo_tick_53 : decode b_Mo_tick 53 = .ok (.imul, 1) := by decide +kernel
theorem d_Mo_tick_54 : decode b_Mo_tick 54 = .ok (.iconst 4, 1) := by decide +kernel
theorem d_Mo_tick_55 : decode b_Mo_tick 55 = .ok (.iadd, 1) := by decide +kernel
theorem d_Mo_tick_56 : decode b_Mo_tick 56 = .ok (.iaload, 1) := by decide +kernel
theorem d_Mo_tick_57 : decode b_Mo_tick 57 = .ok (.iconst 1, 1) := by decide +kernel
theorem d_Mo_tick_58 : decode b_Mo_tick 58 = .ok (.if_icmp .ne 22, 3) := by decide +kernel
theorem d_Mo_tick_61 : decode b_Mo_tick 61 = .ok (.aload_n 0, 1) := by decide +kernel
theorem d_Mo_tick_62 : decode b_Mo_tick 62 = .ok (.getfield 19, 3) := by decide +kernel
theorem d_Mo_tick_65 : decode b_Mo_tick 65 = .ok (.bipush 6, 2) := by decide +kernel
theorem d_Mo_tick_67 : decode b_Mo_tick 67 = .ok (.iload_n 2, 1) := by decide +kernel
theorem d_Mo_tick_68 : decode b_Mo_tick 68 = .ok (.imul, 1) := by decide +kernel
theorem d_Mo_tick_69 : decode b_Mo_tick 69 = .ok (.iconst 3, 1) := by decide +kernel
theorem d_Mo_tick_70 : decode b_Mo_tick 70 = .ok (.iadd, 1) := by decide +kernel
theorem d_Mo_tick_71 : decode b_Mo_tick 71 = .ok (.iaload, 1) := by decide +kernel
theorem d_Mo_tick_72 : decode b_Mo_tick 72 = .ok (.iload_n 1, 1) := by decide +kernel
theorem d_Mo_tick_73 : decode b_Mo_tick 73 = .ok (.if_icmp .gt 7, 3) := by decide +kernel
theorem d_Mo_tick_76 : decode b_Mo_tick 76 = .ok (.iconst 2, 1) := by decide +kernel
theorem d_Mo_tick_77 : decode b_Mo_tick 77 = .ok (.goto 14, 3) := by decide +kernel
theorem d_Mo_tick_80 : decode b_Mo_tick 80 = .ok (.aload_n 0, 1) := by decide +kernel
theorem d_Mo_tick_81 : decode b_Mo_tick 81 = .ok (.getfield 19, 3) := by decide +kernel
theorem d_Mo_tick_84 : decode b_Mo_tick 84 = .ok (.bipush 6, 2) := by decide +kernel
theorem d_Mo_tick_86 : decode b_Mo_tick 86 = .ok (.iload_n 2, 1) := by decide +kernel
theorem d_Mo_tick_87 : decode b_Mo_tick 87 = .ok (.imul, 1) := by decide +kernel
theorem d_Mo_tick_88 : decode b_Mo_tick 88 = .ok (.iconst 4, 1) := by decide +kernel
theorem d_Mo_tick_89 : decode b_Mo_tick 89 = .ok (.iadd, 1) := by decide +kernel
theorem d_Mo_tick_90 : decode b_Mo_tick 90 = .ok (.iaload, 1) := by decide +kernel
theorem d_Mo_tick_91 : decode b_Mo_tick 91 = .ok (.iastore, 1) := by decide +kernel
theorem d_Mo_tick_92 : decode b_Mo_tick 92 = .ok (.iinc 2 1, 3) := by decide +kernel
theorem d_Mo_tick_95 : decode b_Mo_tick 95 = .ok (.goto (-67), 3) := by decide +kernel
theorem d_Mo_tick_98 : decode b_Mo_tick 98 = .ok (.iconst 0, 1) := by decide +kernel
theorem d_Mo_tick_99 : decode b_Mo_tick 99 = .ok (.istore_n 2, 1) := by decide +kernel
theorem d_Mo_tick_100 : decode b_Mo_tick 100 = .ok (.iconst 1, 1) := by decide +kernel
theorem d_Mo_tick_101 : decode b_Mo_tick 101 = .ok (.istore_n 3, 1) := by decide +kernel
theorem d_Mo_tick_102 : decode b_Mo_tick 102 = .ok (.iload_n 3, 1) := by decide +kernel
theorem d_Mo_tick_103 : decode b_Mo_tick 103 = .ok (.aload_n 0, 1) := by decide +kernel
theorem d_Mo_tick_104 : decode b_Mo_tick 104 = .ok (.getfield 46, 3) := by decide +kernel
theorem d_Mo_tick_107 : decode b_Mo_tick 107 = .ok (.if_icmp .gt 158, 3) := by decide +kernel
theorem d_Mo_tick_110 : decode b_Mo_tick 110 = .ok (.bipush 6, 2) := by decide +kernel
theorem d_Mo_tick_112 : decode b_Mo_tick 112 = .ok (.iload_n 3, 1) := by decide +kernel
theorem d_Mo_tick_113 : decode b_Mo_tick 113 = .ok (.imul, 1) := by decide +kernel
theorem d_Mo_tick_114 : decode b_Mo_tick 114 = .ok (.istore 4, 2) := by decide +kernel
theorem d_Mo_tick_116 : decode b_Mo_tick 116 = .ok (.aload_n 0, 1) := by decide +kernel
theorem d_Mo_tick_117 : decode b_Mo_tick 117 = .ok (.getfield 19, 3) := by decide +kernel
theorem d_Mo_tick_120 : decode b_Mo_tick 120 = .ok (.iload 4, 2) := by decide +kernel
theorem d_Mo_tick_122 : decode b_Mo_tick 122 = .ok (.iconst 4, 1) := by decide +kernel
theorem d_Mo_tick_123 : decode b_Mo_tick 123 = .ok (.iadd, 1) := by decide +kernel
theorem d_Mo_tick_124 : decode b_Mo_tick 124 = .ok (.iaload, 1) := by decide +kernel
theorem d_Mo_tick_125 : decode b_Mo_tick 125 = .ok (.ifCond .ne 134, 3) := by decide +kernel
theorem d_Mo_tick_128 : decode b_Mo_tick 128 = .ok (.aload_n 0, 1) := by decide +kernel
theorem d_Mo_tick_129 : decode b_Mo_tick 129 = .ok (.getfield 19, 3) := by decide +kernel
theorem d_Mo_tick_132 : decode b_Mo_tick 132 = .ok (.iload 4, 2) := by decide +kernel
theorem d_Mo_tick_134 : decode b_Mo_tick 134 = .ok (.iconst 5, 1) := by decide +kernel
theorem d_Mo_tick_135 : decode b_Mo_tick 135 = .ok (.iadd, 1) := by decide +kernel
theorem d_Mo_tick_136 : decode b_Mo_tick 136 = .ok (.iaload, 1) := by decide +kernel
theorem d_Mo_tick_137 : decode b_Mo_tick 137 = .ok (.ifCond .ne 122, 3) := by decide +kernel
theorem d_Mo_tick_140 : decode b_Mo_tick 140 = .ok (.aload_n 0, 1) := by decide +kernel
theorem d_Mo_tick_141 : decode b_Mo_tick 141 = .ok (.getfield 19, 3) := by decide +kernel
theorem d_Mo_tick_144 : decode b_Mo_tick 144 = .ok (.iload 4, 2) := by decide +kernel
theorem d_Mo_tick_146 : decode b_Mo_tick 146 = .ok (.iconst 2, 1) := by decide +kernel
theorem d_Mo_tick_147 : decode b_Mo_tick 147 = .ok (.iadd, 1) := by decide +kernel
theorem d_Mo_tick_148 : decode b_Mo_tick 148 = .ok (.iaload, 1) := by decide +kernel
theorem d_Mo_tick_149 : decode b_Mo_tick 149 = .ok (.aload_n 0, 1) := by decide +kernel
theorem d_Mo_tick_150 : decode b_Mo_tick 150 = .ok (.getfield 16, 3) := by decide +kernel
theorem d_Mo_tick_153 : decode b_Mo_tick 153 = .ok (.iconst 5, 1) := by decide +kernel
theorem d_Mo_tick_154 : decode b_Mo_tick 154 = .ok (.aload_n 0, 1) := by decide +kernel
theorem d_Mo_tick_155 : decode b_Mo_tick 155 = .ok (.getfield 19, 3) := by decide +kernel
theorem d_Mo_tick_158 : decode b_Mo_tick 158 = .ok (.iload 4, 2) := by decide +kernel
theorem d_Mo_tick_160 : decode b_Mo_tick 160 = .ok (.iconst 1, 1) := by decide +kernel
theorem d_Mo_tick_161 : decode b_Mo_tick 161 = .ok (.iadd, 1) := by decide +kernel
theorem d_Mo_tick_162 : decode b_Mo_tick 162 = .ok (.iaload, 1) := by decide +kernel
theorem d_Mo_tick_163 : decode b_Mo_tick 163 = .ok (.imul, 1) := by decide +kernel
theorem d_Mo_tick_164 : decode b_Mo_tick 164 = .ok (.iconst 4, 1) := by decide +kernel
theorem d_Mo_tick_165 : decode b_Mo_tick 165 = .ok (.iadd, 1) := by decide +kernel
theorem d_Mo_tick_166 : decode b_Mo_tick 166 = .ok (.iaload, 1) := by decide +kernel
theorem d_Mo_tick_167 : decode b_Mo_tick 167 = .ok (.iadd, 1) := by decide +kernel
theorem d_Mo_tick_168 : decode b_Mo_tick 168 = .ok (.iload_n 1, 1) := by decide +kernel
theorem d_Mo_tick_169 : decode b_Mo_tick 169 = .ok (.if_icmp .ge 90, 3) := by decide +kernel
theorem d_Mo_tick_172 : decode b_Mo_tick 172 = .ok (.aload_n 0, 1) := by decide +kernel
theorem d_Mo_tick_173 : decode b_Mo_tick 173 = .ok (.iload_n 3, 1) := by decide +kernel
theorem d_Mo_tick_174 : decode b_Mo_tick 174 = .ok (.iconst 4, 1) := by decide +kernel
theorem d_Mo_tick_175 : decode b_Mo_tick 175 = .ok (.invokevirtual 110, 3) := by decide +kernel
theorem d_Mo_tick_178 : decode b_Mo_tick 178 = .ok (.istore 5, 2) := by decide +kernel
theorem d_Mo_tick_180 : decode b_Mo_tick 180 = .ok (.aload_n 0, 1) := by decide +kernel
theorem d_Mo_tick_181 : decode b_Mo_tick 181 = .ok (.getfield 19, 3) := by decide +kernel
theorem d_Mo_tick_184 : decode b_Mo_tick 184 = .ok (.iload 4, 2) := by decide +kernel
theorem d_Mo_tick_186 : decode b_Mo_tick 186 = .ok (.iaload, 1) := by decide +kernel
theorem d_Mo_tick_187 : decode b_Mo_tick 187 = .ok (.istore 6, 2) := by decide +kernel
theorem d_Mo_tick_189 : decode b_Mo_tick 189 = .ok (.aload_n 0, 1) := by decide +kernel
theorem d_Mo_tick_190 : decode b_Mo_tick 190 = .ok (.getfield 25, 3) := by decide +kernel
theorem d_Mo_tick_193 : decode b_Mo_tick 193 = .ok (.iload 6, 2) := by decide +kernel
theorem d_Mo_tick_195 : decode b_Mo_tick 195 = .ok (.dup2, 1) := by decide +kernel
theorem d_Mo_tick_196 : decode b_Mo_tick 196 = .ok (.iaload, 1) := by decide +kernel
theorem d_Mo_tick_197 : decode b_Mo_tick 197 = .ok (.iconst 1, 1) := by decide +kernel
theorem d_Mo_tick_198 : decode b_Mo_tick 198 = .ok (.iadd, 1) := by decide +kernel
theorem d_Mo_tick_199 : decode b_Mo_tick 199 = .ok (.iastore, 1) := by decide +kernel
theorem d_Mo_tick_200 : decode b_Mo_tick 200 = .ok (.aload_n 0, 1) := by decide +kernel
theorem d_Mo_tick_201 : decode b_Mo_tick 201 = .ok (.getfield 28, 3) := by decide +kernel
theorem d_Mo_tick_204 : decode b_Mo_tick 204 = .ok (.iload 6, 2) := by decide +kernel
theorem d_Mo_tick_206 : decode b_Mo_tick 206 = .ok (.aload_n 0, 1) := by decide +kernel
theorem d_Mo_tick_207 : decode b_Mo_tick 207 = .ok (.getfield 25, 3) := by decide +kernel
theorem d_Mo_tick_210 : decode b_Mo_tick 210 = .ok (.iload 6, 2) := by decide +kernel
theorem d_Mo_tick_212 : decode b_Mo_tick 212 = .ok (.iaload, 1) := by decide +kernel
theorem d_Mo_tick_213 : decode b_Mo_tick 213 = .ok (.iconst 3, 1) := by decide +kernel
theorem d_Mo_tick_214 : decode b_Mo_tick 214 = .ok (.irem, 1) := by decide +kernel
theorem d_Mo_tick_215 : decode b_Mo_tick 215 = .ok (.ifCond .ne 11, 3) := by decide +kernel
theorem d_Mo_tick_218 : decode b_Mo_tick 218 = .ok (.iload_n 1, 1) := by decide +kernel
theorem d_Mo_tick_219 : decode b_Mo_tick 219 = .ok (.sipush 10080, 3) := by decide +kernel
theorem d_Mo_tick_222 : decode b_Mo_tick 222 = .ok (.iadd, 1) := by decide +kernel
theorem d_Mo_tick_223 : decode b_Mo_tick 223 = .ok (.goto 10, 3) := by decide +kernel
theorem d_Mo_tick_226 : decode b_Mo_tick 226 = .ok (.aload_n 0, 1) := by decide +kernel
theorem d_Mo_tick_227 : decode b_Mo_tick 227 = .ok (.getfield 28, 3) := by decide +kernel
theorem d_Mo_tick_230 : decode b_Mo_tick 230 = .ok (.iload 6, 2) := by decide +kernel
theorem d_Mo_tick_232 : decode b_Mo_tick 232 = .ok (.iaload, 1) := by decide +kernel
theorem d_Mo_tick_233 : decode b_Mo_tick 233 = .ok (.iastore, 1) := by decide +kernel
theorem d_Mo_tick_234 : decode b_Mo_tick 234 = .ok (.iinc 2 1, 3) := by decide +kernel
theorem d_Mo_tick_237 : decode b_Mo_tick 237 = .ok (.aload_n 0, 1) := by decide +kernel
theorem d_Mo_tick_238 : decode b_Mo_tick 238 = .ok (.iload_n 3, 1) := by decide +kernel
theorem d_Mo_tick_239 : decode b_Mo_tick 239 = .ok (.iload 5, 2) := by decide +kernel
theorem d_Mo_tick_241 : decode b_Mo_tick 241 = .ok (.invokevirtual 114, 3) := by decide +kernel
theorem d_Mo_tick_244 : decode b_Mo_tick 244 = .ok (.istore 7, 2) := by decide +kernel
theorem d_Mo_tick_246 : decode b_Mo_tick 246 = .ok (.iload_n 2, 1) := by decide +kernel
theorem d_Mo_tick_247 : decode b_Mo_tick 247 = .ok (.iload 7, 2) := by decide +kernel
theorem d_Mo_tick_249 : decode b_Mo_tick 249 = .ok (.ifCond .ge 7, 3) := by decide +kernel
theorem d_Mo_tick_252 : decode b_Mo_tick 252 = .ok (.iconst 1, 1) := by decide +kernel
theorem d_Mo_tick_253 : decode b_Mo_tick 253 = .ok (.goto 4, 3) := by decide +kernel
theorem d_Mo_tick_256 : decode b_Mo_tick 256 = .ok (.iconst 0, 1) := by decide +kernel
theorem d_Mo_tick_257 : decode b_Mo_tick 257 = .ok (.iadd, 1) := by decide +kernel
theorem d_Mo_tick_258 : decode b_Mo_tick 258 = .ok (.istore_n 2, 1) := by decide +kernel
theorem d_Mo_tick_259 : decode b_Mo_tick 259 = .ok (.iinc 3 1, 3) := by decide +kernel
theorem d_Mo_tick_262 : decode b_Mo_tick 262 = .ok (.goto (-160), 3) := by decide +kernel
theorem d_Mo_tick_265 : decode b_Mo_tick 265 = .ok (.iload_n 2, 1) := by decide +kernel
theorem d_Mo_tick_266 : decode b_Mo_tick 266 = .ok (.ireturn, 1) := by decide +kernel
theorem d_Mo_clash_0 : decode b_Mo_clash 0 = .ok (.aload_n 0, 1) := by decide +kernel
theorem d_Mo_clash_1 : decode b_Mo_clash 1 = .ok (.iconst 0, 1) := by decide +kernel
theorem d_Mo_clash_2 : decode b_Mo_clash 2 = .ok (.putfield 38, 3) := by decide +kernel
theorem d_Mo_clash_5 : decode b_Mo_clash 5 = .ok (.aload_n 0, 1) := by decide +kernel
theorem d_Mo_clash_6 : decode b_Mo_clash 6 = .ok (.iload_n 1, 1) := by decide +kernel
theorem d_Mo_clash_7 : decode b_Mo_clash 7 = .ok (.invokevirtual 90, 3) := by decide +kernel
theorem d_Mo_clash_10 : decode b_Mo_clash 10 = .ok (.ifCond .eq 56, 3) := by decide +kernel
theorem d_Mo_clash_13 : decode b_Mo_clash 13 = .ok (.aload_n 0, 1) := by decide +kernel
theorem d_Mo_clash_14 : decode b_Mo_clash 14 = .ok (.iload_n 2, 1) := by decide +kernel
theorem d_Mo_clash_15 : decode b_Mo_clash 15 = .ok (.invokevirtual 90, 3) := by decide +kernel
theorem d_Mo_clash_18 : decode b_Mo_clash 18 = .ok (.ifCond .eq 48, 3) := by decide +kernel
theorem d_Mo_clash_21 : decode b_Mo_clash 21 = .ok (.aload_n 0, 1) := by decide +kernel
theorem d_Mo_clash_22 : decode b_Mo_clash 22 = .ok (.iload_n 1, 1) := by decide +kernel
theorem d_Mo_clash_23 : decode b_Mo_clash 23 = .ok (.aload_n 0, 1) := by decide +kernel
theorem d_Mo_clash_24 : decode b_Mo_clash 24 = .ok (.getfield 19, 3) := by decide +kernel
theorem d_Mo_clash_27 : decode b_Mo_clash 27 = .ok (.bipush 6, 2) := by decide +kernel
theorem d_Mo_clash_29 : decode b_Mo_clash 29 = .ok (.iload_n 2, 1) := by decide +kernel
theorem d_Mo_clash_30 : decode b_Mo_clash 30 = .ok (.imul, 1) := by decide +kernel
theorem d_Mo_clash_31 : decode b_Mo_clash 31 = .ok (.iconst 1, 1) := by decide +kernel
theorem d_Mo_clash_32 : decode b_Mo_clash 32 = .ok (.iadd, 1) := by decide +kernel
theorem d_Mo_clash_33 : decode b_Mo_clash 33 = .ok (.iaload, 1) := by decide +kernel
theorem d_Mo_clash_34 : decode b_Mo_clash 34 = .ok (.aload_n 0, 1) := by decide +kernel
theorem d_Mo_clash_35 : decode b_Mo_clash 35 = .ok (.getfield 19, 3) := by decide +kernel
theorem d_Mo_clash_38 : decode b_Mo_clash 38 = .ok (.bipush 6, 2) := by decide +kernel
theorem d_Mo_clash_40 : decode b_Mo_clash 40 = .ok (.iload_n 2, 1) := by decide +kernel
theorem d_Mo_clash_41 : decode b_Mo_clash 41 = .ok (.imul, 1) := by decide +kernel
theorem d_Mo_clash_42 : decode b_Mo_clash 42 = .ok (.iconst 2, 1) := by decide +kernel
theorem d_Mo_clash_43 : decode b_Mo_clash 43 = .ok (.iadd, 1) := by decide +kernel
theorem d_Mo_clash_44 : decode b_Mo_clash 44 = .ok (.iaload, 1) := by decide +kernel
theorem d_Mo_clash_45 : decode b_Mo_clash 45 = .ok (.aload_n 0, 1) := by decide +kernel
theorem d_Mo_clash_46 : decode b_Mo_clash 46 = .ok (.getfield 19, 3) := by decide +kernel
theorem d_Mo_clash_49 : decode b_Mo_clash 49 = .ok (.bipush 6, 2) := by decide +kernel
theorem d_Mo_clash_51 : decode b_Mo_clash 51 = .ok (.iload_n 2, 1) := by decide +kernel
theorem d_Mo_clash_52 : decode b_Mo_clash 52 = .ok (.imul, 1) := by decide +kernel
theorem d_Mo_clash_53 : decode b_Mo_clash 53 = .ok (.iconst 3, 1) := by decide +kernel
theorem d_Mo_clash_54 : decode b_Mo_clash 54 = .ok (.iadd, 1) := by decide +kernel
theorem d_Mo_clash_55 : decode b_Mo_clash 55 = .ok (.iaload, 1) := by decide +kernel
theorem d_Mo_clash_56 : decode b_Mo_clash 56 = .ok (.invokevirtual 60, 3) := by decide +kernel
theorem d_Mo_clash_59 : decode b_Mo_clash 59 = .ok (.ifCond .eq 7, 3) := by decide +kernel
theorem d_Mo_clash_62 : decode b_Mo_clash 62 = .ok (.iconst 1, 1) := by decide +kernel
