theorem d_Mo_against_28 : decode b_Mo_against 28 = .ok (.iload 4, 2) := by decide +kernel
theorem d_Mo_against_30 : decode b_Mo_against 30 = .ok (.iload_n 3, 1) := by decide +kernel
theorem d_Mo_against_31 : decode b_Mo_against 31 = .ok (.isub, 1) := by decide +kernel
theorem d_Mo_against_32 : decode b_Mo_against 32 = .ok (.aload_n 0, 1) := by decide +kernel
theorem d_Mo_against_33 : decode b_Mo_against 33 = .ok (.getfield 16, 3) := by decide +kernel
theorem d_Mo_against_36 : decode b_Mo_against 36 = .ok (.iload 6, 2) := by decide +kernel
theorem d_Mo_against_38 : decode b_Mo_against 38 = .ok (.iconst 1, 1) := by decide +kernel
theorem d_Mo_against_39 : decode b_Mo_against 39 = .ok (.iadd, 1) := by decide +kernel
theorem d_Mo_against_40 : decode b_Mo_against 40 = .ok (.iaload, 1) := by decide +kernel
theorem d_Mo_against_41 : decode b_Mo_against 41 = .ok (.if_icmp .lt 19, 3) := by decide +kernel
theorem d_Mo_against_44 : decode b_Mo_against 44 = .ok (.iload 4, 2) := by decide +kernel
theorem d_Mo_against_46 : decode b_Mo_against 46 = .ok (.iload_n 3, 1) := by decide +kernel
theorem d_Mo_against_47 : decode b_Mo_against 47 = .ok (.isub, 1) := by decide +kernel
theorem d_Mo_against_48 : decode b_Mo_against 48 = .ok (.aload_n 0, 1) := by decide +kernel
theorem d_Mo_against_49 : decode b_Mo_against 49 = .ok (.getfield 16, 3) := by decide +kernel
theorem d_Mo_against_52 : decode b_Mo_against 52 = .ok (.iload 6, 2) := by decide +kernel
theorem d_Mo_against_54 : decode b_Mo_against 54 = .ok (.iconst 2, 1) := by decide +kernel
theorem d_Mo_against_55 : decode b_Mo_against 55 = .ok (.iadd, 1) := by decide +kernel
theorem d_Mo_against_56 : decode b_Mo_against 56 = .ok (.iaload, 1) := by decide +kernel
theorem d_Mo_against_57 : decode b_Mo_against 57 = .ok (.if_icmp .le 6, 3) := by decide +kernel
theorem d_Mo_against_60 : decode b_Mo_against 60 = .ok (.bipush (-2), 2) := by decide +kernel
theorem d_Mo_against_62 : decode b_Mo_against 62 = .ok (.ireturn, 1) := by decide +kernel
theorem d_Mo_against_63 : decode b_Mo_against 63 = .ok (.iload_n 3, 1) := by decide +kernel
theorem d_Mo_against_64 : decode b_Mo_against 64 = .ok (.aload_n 0, 1) := by decide +kernel
theorem d_Mo_against_65 : decode b_Mo_against 65 = .ok (.getfield 67, 3) := by decide +kernel
theorem d_Mo_against_68 : decode b_Mo_against 68 = .ok (.if_icmp .lt 21, 3) := by decide +kernel
theorem d_Mo_against_71 : decode b_Mo_against 71 = .ok (.iload_n 3, 1) := by decide +kernel
theorem d_Mo_against_72 : decode b_Mo_against 72 = .ok (.aload_n 0, 1) := by decide +kernel
theorem d_Mo_against_73 : decode b_Mo_against 73 = .ok (.getfield 67, 3) := by decide +kernel
theorem d_Mo_against_76 : decode b_Mo_against 76 = .ok (.aload_n 0, 1) := by decide +kernel
theorem d_Mo_against_77 : decode b_Mo_against 77 = .ok (.getfield 16, 3) := by decide +kernel
theorem d_Mo_against_80 : decode b_Mo_against 80 = .ok (.iload 6, 2) := by decide +kernel
theorem d_Mo_against_82 : decode b_Mo_against 82 = .ok (.iconst 3, 1) := by decide +kernel
theorem d_Mo_against_83 : decode b_Mo_against 83 = .ok (.iadd, 1) := by decide +kernel
theorem d_Mo_against_84 : decode b_Mo_against 84 = .ok (.iaload, 1) := by decide +kernel
theorem d_Mo_against_85 : decode b_Mo_against 85 = .ok (.iadd, 1) := by decide +kernel
theorem d_Mo_against_86 : decode b_Mo_against 86 = .ok (.if_icmp .le 6, 3) := by decide +kernel
theorem d_Mo_against_89 : decode b_Mo_against 89 = .ok (.bipush (-3), 2) := by decide +kernel
theorem d_Mo_against_91 : decode b_Mo_against 91 = .ok (.ireturn, 1) := by decide +kernel
theorem d_Mo_against_92 : decode b_Mo_against 92 = .ok (.iload_n 3, 1) := by decide +kernel
theorem d_Mo_against_93 : decode b_Mo_against 93 = .ok (.sipush 1440, 3) := by decide +kernel
theorem d_Mo_against_96 : decode b_Mo_against 96 = .ok (.idiv, 1) := by decide +kernel
theorem d_Mo_against_97 : decode b_Mo_against 97 = .ok (.istore 7, 2) := by decide +kernel
theorem d_Mo_against_99 : decode b_Mo_against 99 = .ok (.bipush 14, 2) := by decide +kernel
theorem d_Mo_against_101 : decode b_Mo_against 101 = .ok (.aload_n 0, 1) := by decide +kernel
theorem d_Mo_against_102 : decode b_Mo_against 102 = .ok (.getfield 16, 3) := by decide +kernel
theorem d_Mo_against_105 : decode b_Mo_against 105 = .ok (.iload 6, 2) := by decide +kernel
theorem d_Mo_against_107 : decode b_Mo_against 107 = .ok (.iaload, 1) := by decide +kernel
theorem d_Mo_against_108 : decode b_Mo_against 108 = .ok (.imul, 1) := by decide +kernel
theorem d_Mo_against_109 : decode b_Mo_against 109 = .ok (.iconst 2, 1) := by decide +kernel
theorem d_Mo_against_110 : decode b_Mo_against 110 = .ok (.iload 7, 2) := by decide +kernel
theorem d_Mo_against_112 : decode b_Mo_against 112 = .ok (.bipush 7, 2) := by decide +kernel
theorem d_Mo_against_114 : decode b_Mo_against 114 = .ok (.irem, 1) := by decide +kernel
theorem d_Mo_against_115 : decode b_Mo_against 115 = .ok (.imul, 1) := by decide +kernel
theorem d_Mo_against_116 : decode b_Mo_against 116 = .ok (.iadd, 1) := by decide +kernel
theorem d_Mo_against_117 : decode b_Mo_against 117 = .ok (.istore 8, 2) := by decide +kernel
theorem d_Mo_against_119 : decode b_Mo_against 119 = .ok (.aload_n 0, 1) := by decide +kernel
theorem d_Mo_against_120 : decode b_Mo_against 120 = .ok (.iload 7, 2) := by decide +kernel
theorem d_Mo_against_122 : decode b_Mo_against 122 = .ok (.invokevirtual 53, 3) := by decide +kernel
theorem d_Mo_against_125 : decode b_Mo_against 125 = .ok (.ifCond .ne 42, 3) := by decide +kernel
theorem d_Mo_against_128 : decode b_Mo_against 128 = .ok (.iload_n 3, 1) := by decide +kernel
theorem d_Mo_against_129 : decode b_Mo_against 129 = .ok (.sipush 1440, 3) := by decide +kernel
theorem d_Mo_against_132 : decode b_Mo_against 132 = .ok (.iload 7, 2) := by decide +kernel
theorem d_Mo_against_134 : decode b_Mo_against 134 = .ok (.imul, 1) := by decide +kernel
theorem d_Mo_against_135 : decode b_Mo_against 135 = .ok (.isub, 1) := by decide +kernel
theorem d_Mo_against_136 : decode b_Mo_against 136 = .ok (.aload_n 0, 1) := by decide +kernel
theorem d_Mo_against_137 : decode b_Mo_against 137 = .ok (.getfield 7, 3) := by decide +kernel
theorem d_Mo_against_140 : decode b_Mo_against 140 = .ok (.iload 8, 2) := by decide +kernel
theorem d_Mo_against_142 : decode b_Mo_against 142 = .ok (.iaload, 1) := by decide +kernel
theorem d_Mo_against_143 : decode b_Mo_against 143 = .ok (.if_icmp .lt 24, 3) := by decide +kernel
theorem d_Mo_against_146 : decode b_Mo_against 146 = .ok (.iload 4, 2) := by decide +kernel
theorem d_Mo_against_148 : decode b_Mo_against 148 = .ok (.sipush 1440, 3) := by decide +kernel
theorem d_Mo_against_151 : decode b_Mo_against 151 = .ok (.iload 7, 2) := by decide +kernel
theorem d_Mo_against_153 : decode b_Mo_against 153 = .ok (.imul, 1) := by decide +kernel
theorem d_Mo_against_154 : decode b_Mo_against 154 = .ok (.isub, 1) := by decide +kernel
theorem d_Mo_against_155 : decode b_Mo_against 155 = .ok (.aload_n 0, 1) := by decide +kernel
theorem d_Mo_against_156 : decode b_Mo_against 156 = .ok (.getfield 7, 3) := by decide +kernel
theorem d_Mo_against_159 : decode b_Mo_against 159 = .ok (.iload 8, 2) := by decide +kernel
theorem d_Mo_against_161 : decode b_Mo_against 161 = .ok (.iconst 1, 1) := by decide +kernel
theorem d_Mo_against_162 : decode b_Mo_against 162 = .ok (.iadd, 1) := by decide +kernel
theorem d_Mo_against_163 : decode b_Mo_against 163 = .ok (.iaload, 1) := by decide +kernel
theorem d_Mo_against_164 : decode b_Mo_against 164 = .ok (.if_icmp .le 6, 3) := by decide +kernel
theorem d_Mo_against_167 : decode b_Mo_against 167 = .ok (.bipush (-4), 2) := by decide +kernel
theorem d_Mo_against_169 : decode b_Mo_against 169 = .ok (.ireturn, 1) := by decide +kernel
theorem d_Mo_against_170 : decode b_Mo_against 170 = .ok (.iload 5, 2) := by decide +kernel
theorem d_Mo_against_172 : decode b_Mo_against 172 = .ok (.ifCond .ne 28, 3) := by decide +kernel
theorem d_Mo_against_175 : decode b_Mo_against 175 = .ok (.aload_n 0, 1) := by decide +kernel
theorem d_Mo_against_176 : decode b_Mo_against 176 = .ok (.getfield 67, 3) := by decide +kernel
theorem d_Mo_against_179 : decode b_Mo_against 179 = .ok (.aload_n 0, 1) := by decide +kernel
theorem d_Mo_against_180 : decode b_Mo_against 180 = .ok (.getfield 28, 3) := by decide +kernel
theorem d_Mo_against_183 : decode b_Mo_against 183 = .ok (.iload_n 1, 1) := by decide +kernel
theorem d_Mo_against_184 : decode b_Mo_against 184 = .ok (.iaload, 1) := by decide +kernel
theorem d_Mo_against_185 : decode b_Mo_against 185 = .ok (.if_icmp .lt 12, 3) := by decide +kernel
theorem d_Mo_against_188 : decode b_Mo_against 188 = .ok (.aload_n 0, 1) := by decide +kernel
theorem d_Mo_against_189 : decode b_Mo_against 189 = .ok (.iload_n 1, 1) := by decide +kernel
theorem d_Mo_against_190 : decode b_Mo_against 190 = .ok (.invokevirtual 70, 3) := by decide +kernel
theorem d_Mo_against_193 : decode b_Mo_against 193 = .ok (.iconst 5, 1) := by decide +kernel
theorem d_Mo_against_194 : decode b_Mo_against 194 = .ok (.if_icmp .lt 6, 3) := by decide +kernel
theorem d_Mo_against_197 : decode b_Mo_against 197 = .ok (.bipush (-5), 2) := by decide +kernel
theorem d_Mo_against_199 : decode b_Mo_against 199 = .ok (.ireturn, 1) := by decide +kernel
theorem d_Mo_against_200 : decode b_Mo_against 200 = .ok (.aload_n 0, 1) := by decide +kernel
theorem d_Mo_against_201 : decode b_Mo_against 201 = .ok (.iload_n 2, 1) := by decide +kernel
theorem d_Mo_against_202 : decode b_Mo_against 202 = .ok (.iload_n 3, 1) := by decide +kernel
theorem d_Mo_against_203 : decode b_Mo_against 203 = .ok (.iload 4, 2) := by decide +kernel
theorem d_Mo_against_205 : decode b_Mo_against 205 = .ok (.iload 5, 2) := by decide +kernel
theorem d_Mo_against_207 : decode b_Mo_against 207 = .ok (.invokevirtual 74, 3) := by decide +kernel
theorem d_Mo_against_210 : decode b_Mo_against 210 = .ok (.ifCond .eq 8, 3) := by decide +kernel
theorem d_Mo_against_213 : decode b_Mo_against 213 = .ok (.bipush (-6), 2) := by decide +kernel
theorem d_Mo_against_215 : decode b_Mo_against 215 = .ok (.goto 4, 3) := by decide +kernel
theorem d_Mo_against_218 : decode b_Mo_against 218 = .ok (.iconst 0, 1) := by decide +kernel
theorem d_Mo_against_219 : decode b_Mo_against 219 = .ok (.ireturn, 1) := by decide +kernel
theorem d_Mo_add_0 : decode b_Mo_add 0 = .ok (.aload_n 0, 1) := by decide +kernel
theorem d_Mo_add_1 : decode b_Mo_add 1 = .ok (.dup, 1) := by decide +kernel
theorem d_Mo_add_2 : decode b_Mo_add 2 = .ok (.getfield 46, 3) := by decide +kernel
theorem d_Mo_add_5 : decode b_Mo_add 5 = .ok (.iconst 1, 1) := by decide +kernel
theorem d_Mo_add_6 : decode b_Mo_add 6 = .ok (.iadd, 1) := by decide +kernel
theorem d_Mo_add_7 : decode b_Mo_add 7 = .ok (.putfield 46, 3) := by decide +kernel
theorem d_Mo_add_10 : decode b_Mo_add 10 = .ok (.bipush 6, 2) := by decide +kernel
theorem d_Mo_add_12 : decode b_Mo_add 12 = .ok (.aload_n 0, 1) := by decide +kernel
theorem d_Mo_add_13 : decode b_Mo_add 13 = .ok (.getfield 46, 3) := by decide +kernel
theorem d_Mo_add_16 : decode b_Mo_add 16 = .ok (.imul, 1) := by decide +kernel
theorem d_Mo_add_17 : decode b_Mo_add 17 = .ok (.istore 6, 2) := by decide +kernel
theorem d_Mo_add_19 : decode b_Mo_add 19 = .ok (.aload_n 0, 1) := by decide +kernel
theorem d_Mo_add_20 : decode b_Mo_add 20 = .ok (.getfield 19, 3) := by decide +kernel
theorem d_Mo_add_23 : decode b_Mo_add 23 = .ok (.iload 6, 2) := by decide +kernel
theorem d_Mo_add_25 : decode b_Mo_add 25 = .ok (.iload_n 1, 1) := by decide +kernel
theorem d_Mo_add_26 : decode b_Mo_add 26 = .ok (.iastore, 1) := by decide +kernel
theorem d_Mo_add_27 : decode b_Mo_add 27 = .ok (.aload_n 0, 1) := by decide +kernel
theorem d_Mo_add_28 : decode b_Mo_add 28 = .ok (.getfield 19, 3) := by decide +kernel
theorem d_Mo_add_31 : decode b_Mo_add 31 = .ok (.iload 6, 2) := by decide +kernel
theorem d_Mo_add_33 : decode b_Mo_add 33 = .ok (.iconst 1, 1) := by decide +kernel
theorem d_Mo_add_34 : decode b_Mo_add 34 = .ok (.iadd, 1) := by decide +kernel
theorem d_Mo_add_35 : decode b_Mo_add 35 = .ok (.iload_n 2, 1) := by decide +kernel
theorem d_Mo_add_36 : decode b_Mo_add 36 = .ok (.iastore, 1) := by decide +kernel
theorem d_Mo_add_37 : decode b_Mo_add 37 = .ok (.aload_n 0, 1) := by decide +kernel
theorem d_Mo_add_38 : decode b_Mo_add 38 = .ok (.getfield 19, 3) := by decide +kernel
theorem d_Mo_add_41 : decode b_Mo_add 41 = .ok (.iload 6, 2) := by decide +kernel
theorem d_Mo_add_43 : decode b_Mo_add 43 = .ok (.iconst 2, 1) := by decide +kernel
theorem d_Mo_add_44 : decode b_Mo_add 44 = .ok (.iadd, 1) := by decide +kernel
theorem d_Mo_add_45 : decode b_Mo_add 45 = .ok (.iload_n 3, 1) := by decide +kernel
theorem d_Mo_add_46 : decode b_Mo_add 46 = .ok (.iastore, 1) := by decide +kernel
theorem d_Mo_add_47 : decode b_Mo_add 47 = .ok (.aload_n 0, 1) := by decide +kernel
theorem d_Mo_add_48 : decode b_Mo_add 48 = .ok (.getfield 19, 3) := by decide +kernel
theorem d_Mo_add_51 : decode b_Mo_add 51 = .ok (.iload 6, 2) := by decide +kernel
theorem d_Mo_add_53 : decode b_Mo_add 53 = .ok (.iconst 3, 1) := by decide +kernel
theorem d_Mo_add_54 : decode b_Mo_add 54 = .ok (.iadd, 1) := by decide +kernel
theorem d_Mo_add_55 : decode b_Mo_add 55 = .ok (.iload 4, 2) := by decide +kernel
theorem d_Mo_add_57 : decode b_Mo_add 57 = .ok (.iastore, 1) := by decide +kernel
theorem d_Mo_add_58 : decode b_Mo_add 58 = .ok (.aload_n 0, 1) := by decide +kernel
theorem d_Mo_add_59 : decode b_Mo_add 59 = .ok (.getfield 19, 3) := by decide +kernel
theorem d_Mo_add_62 : decode b_Mo_add 62 = .ok (.iload 6, 2) := by decide +kernel
theorem d_Mo_add_64 : decode b_Mo_add 64 = .ok (.iconst 4, 1) := by decide +kernel
theorem d_Mo_add_65 : decode b_Mo_add 65 = .ok (.iadd, 1) := by decide +kernel
theorem d_Mo_add_66 : decode b_Mo_add 66 = .ok (.iconst 0, 1) := by decide +kernel
theorem d_Mo_add_67 : decode b_Mo_add 67 = .ok (.iastore, 1) := by decide +kernel
theorem d_Mo_add_68 : decode b_Mo_add 68 = .ok (.aload_n 0, 1) := by decide +kernel
theorem d_Mo_add_69 : decode b_Mo_add 69 = .ok (.getfield 19, 3) := by decide +kernel
theorem d_Mo_add_72 : decode b_Mo_add 72 = .ok (.iload 6, 2) := by decide +kernel
theorem d_Mo_add_74 : decode b_Mo_add 74 = .ok (.iconst 5, 1) := by decide +kernel
theorem d_Mo_add_75 : decode b_Mo_add 75 = .ok (.iadd, 1) := by decide +kernel
theorem d_Mo_add_76 : decode b_Mo_add 76 = .ok (.iload 5, 2) := by decide +kernel
theorem d_Mo_add_78 : decode b_Mo_add 78 = .ok (.iastore, 1) := by decide +kernel
theorem d_Mo_add_79 : decode b_Mo_add 79 = .ok (.aload_n 0, 1) := by decide +kernel
theorem d_Mo_add_80 : decode b_Mo_add 80 = .ok (.getfield 46, 3) := by decide +kernel
theorem d_Mo_add_83 : decode b_Mo_add 83 = .ok (.ireturn, 1) := by decide +kernel
theorem d_Mo_book_0 : decode b_Mo_book 0 = .ok (.aload_n 0, 1) := by decide +kernel
theorem d_Mo_book_1 : decode b_Mo_book 1 = .ok (.iconst 0, 1) := by decide +kernel
theorem d_Mo_book_2 : decode b_Mo_book 2 = .ok (.putfield 38, 3) := by decide +kernel
theorem d_Mo_book_5 : decode b_Mo_book 5 = .ok (.iload_n 1, 1) := by decide +kernel
theorem d_Mo_book_6 : decode b_Mo_book 6 = .ok (.invokestatic 77, 3) := by decide +kernel
theorem d_Mo_book_9 : decode b_Mo_book 9 = .ok (.ifCond .eq 21, 3) := by decide +kernel
theorem d_Mo_book_12 : decode b_Mo_book 12 = .ok (.aload_n 0, 1) := by decide +kernel
theorem d_Mo_book_13 : decode b_Mo_book 13 = .ok (.iload_n 2, 1) := by decide +kernel
theorem d_Mo_book_14 : decode b_Mo_book 14 = .ok (.invokevirtual 80, 3) := by decide +kernel
theorem d_Mo_book_17 : decode b_Mo_book 17 = .ok (.ifCond .eq 13, 3) := by decide +kernel
theorem d_Mo_book_20 : decode b_Mo_book 20 = .ok (.aload_n 0, 1) := by decide +kernel
theorem d_Mo_book_21 : decode b_Mo_book 21 = .ok (.getfield 46, 3) := by decide +kernel
theorem d_Mo_book_24 : decode b_Mo_book 24 = .ok (.sipush 200, 3) := by decide +kernel
theorem d_Mo_book_27 : decode b_Mo_book 27 = .ok (.if_icmp .ne 5, 3) := by decide +kernel
theorem d_Mo_book_30 : decode b_Mo_book 30 = .ok (.iconst 0, 1) := by decide +kernel
theorem d_Mo_book_31 : decode b_Mo_book 31 = .ok (.ireturn, 1) := by decide +kernel
theorem d_Mo_book_32 : decode b_Mo_book 32 = .ok (.aload_n 0, 1) := by decide +kernel
theorem d_Mo_book_33 : decode b_Mo_book 33 = .ok (.iload_n 1, 1) := by decide +kernel
theorem d_Mo_book_34 : decode b_Mo_book 34 = .ok (.iload_n 2, 1) := by decide +kernel
theorem d_Mo_book_35 : decode b_Mo_book 35 = .ok (.iload_n 3, 1) := by decide +kernel
theorem d_Mo_book_36 : decode b_Mo_book 36 = .ok (.iload 4, 2) := by decide +kernel
theorem d_Mo_book_38 : decode b_Mo_book 38 = .ok (.iconst 0, 1) := by decide +kernel
theorem d_Mo_book_39 : decode b_Mo_book 39 = .ok (.invokevirtual 83, 3) := by decide +kernel
theorem d_Mo_book_42 : decode b_Mo_book 42 = .ok (.istore 5, 2) := by decide +kernel
theorem d_Mo_book_44 : decode b_Mo_book 44 = .ok (.iload 5, 2) := by decide +kernel
theorem d_Mo_book_46 : decode b_Mo_book 46 = .ok (.ifCond .ge 8, 3) := by decide +kernel
theorem d_Mo_book_49 : decode b_Mo_book 49 = .ok (.iload 5, 2) := by decide +kernel
theorem d_Mo_book_51 : decode b_Mo_book 51 = .ok (.goto 13, 3) := by decide +kernel
theorem d_Mo_book_54 : decode b_Mo_book 54 = .ok (.aload_n 0, 1) := by decide +kernel
theorem d_Mo_book_55 : decode b_Mo_book 55 = .ok (.iload_n 1, 1) := by decide +kernel
theorem d_Mo_book_56 : decode b_Mo_book 56 = .ok (.iload_n 2, 1) := by decide +kernel
theorem d_Mo_book_57 : decode b_Mo_book 57 = .ok (.iload_n 3, 1) := by decide +kernel
theorem d_Mo_book_58 : decode b_Mo_book 58 = .ok (.iload 4, 2) := by decide +kernel
theorem d_Mo_book_60 : decode b_Mo_book 60 = .ok (.iconst 0, 1) := by decide +kernel
theorem d_Mo_book_61 : decode b_Mo_book 61 = .ok (.invokevirtual 87, 3) := by decide +kernel
theorem d_Mo_book_64 : decode b_Mo_book 64 = .ok (.ireturn, 1) := by decide +kernel
theorem d_Mo_recurring_0 : decode b_Mo_recurring 0 = .ok (.aload_n 0, 1) := by decide +kernel
theorem d_Mo_recurring_1 : decode b_Mo_recurring 1 = .ok (.iconst 0, 1) := by decide +kernel
theorem d_Mo_recurring_2 : decode b_Mo_recurring 2 = .ok (.putfield 38, 3) := by decide +kernel
theorem d_Mo_recurring_5 : decode b_Mo_recurring 5 = .ok (.aload_n 0, 1) := by decide +kernel
theorem d_Mo_recurring_6 : decode b_Mo_recurring 6 = .ok (.iload_n 1, 1) := by decide +kernel
theorem d_Mo_recurring_7 : decode b_Mo_recurring 7 = .ok (.invokevirtual 90, 3) := by decide +kernel
theorem d_Mo_recurring_10 : decode b_Mo_recurring 10 = .ok (.ifCond .eq 33, 3) := by decide +kernel
theorem d_Mo_recurring_13 : decode b_Mo_recurring 13 = .ok (.aload_n 0, 1) := by decide +kernel
theorem d_Mo_recurring_14 : decode b_Mo_recurring 14 = .ok (.iload_n 1, 1) := by decide +kernel
theorem d_Mo_recurring_15 : decode b_Mo_recurring 15 = .ok (.invokevirtual 57, 3) := by decide +kernel
theorem d_Mo_recurring_18 : decode b_Mo_recurring 18 = .ok (.ifCond .eq 25, 3) := by decide +kernel
theorem d_Mo_recurring_21 : decode b_Mo_recurring 21 = .ok (.iload_n 2, 1) := by decide +kernel
theorem d_Mo_recurring_22 : decode b_Mo_recurring 22 = .ok (.iconst 1, 1) := by decide +kernel
theorem d_Mo_recurring_23 : decode b_Mo_recurring 23 = .ok (.if_icmp .lt 20, 3) := by decide +kernel
theorem d_Mo_recurring_26 : decode b_Mo_recurring 26 = .ok (.iload_n 2, 1) := by decide +kernel
theorem d_Mo_recurring_27 : decode b_Mo_recurring 27 = .ok (.bipush 60, 2) := by decide +kernel
theorem d_Mo_recurring_29 : decode b_Mo_recurring 29 = .ok (.if_icmp .gt 14, 3) := by decide +kernel
theorem d_Mo_recurring_32 : decode b_Mo_recurring 32 = .ok (.iload_n 3, 1) := by decide +kernel
theorem d_Mo_recurring_33 : decode b_Mo_recurring 33 = .ok (.iconst 1, 1) := by decide +kernel
theorem d_Mo_recurring_34 : decode b_Mo_recurring 34 = .ok (.if_icmp .lt 9, 3) := by decide +kernel
theorem d_Mo_recurring_37 : decode b_Mo_recurring 37 = .ok (.iload_n 3, 1) := by decide +kernel
theorem d_Mo_recurring_38 : decode b_Mo_recurring 38 = .ok (.bipush 20, 2) := by decide +kernel
theorem d_Mo_recurring_40 : decode b_Mo_recurring 40 = .ok (.if_icmp .le 5, 3) := by decide +kernel
theorem d_Mo_recurring_43 : decode b_Mo_recurring 43 = .ok (.iconst 0, 1) := by decide +kernel
theorem d_Mo_recurring_44 : decode b_Mo_recurring 44 = .ok (.ireturn, 1) := by decide +kernel
theorem d_Mo_recurring_45 : decode b_Mo_recurring 45 = .ok (.bipush 6, 2) := by decide +kernel
theorem d_Mo_recurring_47 : decode b_Mo_recurring 47 = .ok (.iload_n 1, 1) := by decide +kernel
theorem d_Mo_recurring_48 : decode b_Mo_recurring 48 = .ok (.imul, 1) := by decide +kernel
theorem d_Mo_recurring_49 : decode b_Mo_recurring 49 = .ok (.istore 4, 2) := by decide +kernel
theorem d_Mo_recurring_51 : decode b_Mo_recurring 51 = .ok (.iconst 0, 1) := by decide +kernel
theorem d_Mo_recurring_52 : decode b_Mo_recurring 52 = .ok (.istore 5, 2) := by decide +kernel
theorem d_Mo_recurring_54 : decode b_Mo_recurring 54 = .ok (.iconst 1, 1) := by decide +kernel
theorem d_Mo_recurring_55 : decode b_Mo_recurring 55 = .ok (.istore 6, 2) := by decide +kernel
theorem d_Mo_recurring_57 : decode b_Mo_recurring 57 = .ok (.iconst 1, 1) := by decide +kernel
theorem d_Mo_recurring_58 : decode b_Mo_recurring 58 = .ok (.istore 7, 2) := by decide +kernel
theorem d_Mo_recurring_60 : decode b_Mo_recurring 60 = .ok (.iload 7, 2) := by decide +kernel
theorem d_Mo_recurring_62 : decode b_Mo_recurring 62 = .ok (.iload_n 3, 1) := by decide +kernel
theorem d_Mo_recurring_63 : decode b_Mo_recurring 63 = .ok (.if_icmp .gt 154, 3) := by decide +kernel
theorem d_Mo_recurring_66 : decode b_Mo_recurring 66 = .ok (.iload 6, 2) := by decide +kernel
theorem d_Mo_recurring_68 : decode b_Mo_recurring 68 = .ok (.ifCond .eq 149, 3) := by decide +kernel
theorem d_Mo_recurring_71 : decode b_Mo_recurring 71 = .ok (.sipush 1440, 3) := by decide +kernel
theorem d_Mo_recurring_74 : decode b_Mo_recurring 74 = .ok (.iload_n 2, 1) := by decide +kernel
theorem d_Mo_recurring_75 : decode b_Mo_recurring 75 = .ok (.imul, 1) := by decide +kernel
theorem d_Mo_recurring_76 : decode b_Mo_recurring 76 = .ok (.iload 7, 2) := by decide +kernel
theorem d_Mo_recurring_78 : decode b_Mo_recurring 78 = .ok (.imul, 1) := by decide +kernel
theorem d_Mo_recurring_79 : decode b_Mo_recurring 79 = .ok (.istore 8, 2) := by decide +kernel
theorem d_Mo_recurring_81 : decode b_Mo_recurring 81 = .ok (.aload_n 0, 1) := by decide +kernel
theorem d_Mo_recurring_82 : decode b_Mo_recurring 82 = .ok (.getfield 46, 3) := by decide +kernel
theorem d_Mo_recurring_85 : decode b_Mo_recurring 85 = .ok (.sipush 200, 3) := by decide +kernel
theorem d_Mo_recurring_88 : decode b_Mo_recurring 88 = .ok (.if_icmp .ne 8, 3) := by decide +kernel
theorem d_Mo_recurring_91 : decode b_Mo_recurring 91 = .ok (.bipush (-3), 2) := by decide +kernel
theorem d_Mo_recurring_93 : decode b_Mo_recurring 93 = .ok (.goto 48, 3) := by decide +kernel
theorem d_Mo_recurring_96 : decode b_Mo_recurring 96 = .ok (.aload_n 0, 1) := by decide +kernel
theorem d_Mo_recurring_97 : decode b_Mo_recurring 97 = .ok (.aload_n 0, 1) := by decide +kernel
theorem d_Mo_recurring_98 : decode b_Mo_recurring 98 = .ok (.getfield 19, 3) := by decide +kernel
theorem d_Mo_recurring_101 : decode b_Mo_recurring 101 = .ok (.iload 4, 2) := by decide +kernel
theorem d_Mo_recurring_103 : decode b_Mo_recurring 103 = .ok (.iaload, 1) := by decide +kernel
theorem d_Mo_recurring_104 : decode b_Mo_recurring 104 = .ok (.aload_n 0, 1) := by decide +kernel
theorem d_Mo_recurring_105 : decode b_Mo_recurring 105 = .ok (.getfield 19, 3) := by decide +kernel
theorem d_Mo_recurring_108 : decode b_Mo_recurring 108 = .ok (.iload 4, 2) := by decide +kernel
theorem d_Mo_recurring_110 : decode b_Mo_recurring 110 = .ok (.iconst 1, 1) := by decide +kernel
theorem d_Mo_recurring_111 : decode b_Mo_recurring 111 = .ok (.iadd, 1) := by decide +kernel
theorem d_Mo_recurring_112 : decode b_Mo_recurring 112 = .ok (.iaload, 1) := by decide +kernel
theorem d_Mo_recurring_113 : decode b_Mo_recurring 113 = .ok (.aload_n 0, 1) := by decide +kernel
theorem d_Mo_recurring_114 : decode b_Mo_recurring 114 = .ok (.getfield 19, 3) := by decide +kernel
theorem d_Mo_recurring_117 : decode b_Mo_recurring 117 = .ok (.iload 4, 2) := by decide +kernel
theorem d_Mo_recurring_119 : decode b_Mo_recurring 119 = .ok (.iconst 2, 1) := by decide +kernel
theorem d_Mo_recurring_120 : decode b_Mo_recurring 120 = .ok (.iadd, 1) := by decide +kernel
theorem d_Mo_recurring_121 : decode b_Mo_recurring 121 = .ok (.iaload, 1) := by decide +kernel
theorem d_Mo_recurring_122 : decode b_Mo_recurring 122 = .ok (.iload 8, 2) := by decide +kernel
theorem d_Mo_recurring_124 : decode b_Mo_recurring 124 = .ok (.iadd, 1) := by decide +kernel
theorem d_Mo_recurring_125 : decode b_Mo_recurring 125 = .ok (.aload_n 0, 1) := by decide +kernel
theorem d_Mo_recurring_126 : decode b_Mo_recurring 126 = .ok (.getfield 19, 3) := by decide +kernel
theorem d_Mo_recurring_129 : decode b_Mo_recurring 129 = .ok (.iload 4, 2) := by decide +kernel
theorem d_Mo_recurring_131 : decode b_Mo_recurring 131 = .ok (.iconst 3, 1) := by decide +kernel
theorem d_Mo_recurring_132 : decode b_Mo_recurring 132 = .ok (.iadd, 1) := by decide +kernel
theorem d_Mo_recurring_133 : decode b_Mo_recurring 133 = .ok (.iaload, 1) := by decide +kernel
theorem d_Mo_recurring_134 : decode b_Mo_recurring 134 = .ok (.iload 8, 2) := by decide +kernel
theorem d_Mo_recurring_136 : decode b_Mo_recurring 136 = .ok (.iadd, 1) := by decide +kernel
theorem d_Mo_recurring_137 : decode b_Mo_recurring 137 = .ok (.iconst 0, 1) := by decide +kernel
theorem d_Mo_recurring_138 : decode b_Mo_recurring 138 = .ok (.invokevirtual 83, 3) := by decide +kernel
theorem d_Mo_recurring_141 : decode b_Mo_recurring 141 = .ok (.istore 9, 2) := by decide +kernel
theorem d_Mo_recurring_143 : decode b_Mo_recurring 143 = .ok (.iload 9, 2) := by decide +kernel
theorem d_Mo_recurring_145 : decode b_Mo_recurring 145 = .ok (.bipush (-3), 2) := by decide +kernel
theorem d_Mo_recurring_147 : decode b_Mo_recurring 147 = .ok (.if_icmp .eq 7, 3) := by decide +kernel
theorem d_Mo_recurring_150 : decode b_Mo_recurring 150 = .ok (.iconst 1, 1) := by decide +kernel
theorem d_Mo_recurring_151 : decode b_Mo_recurring 151 = .ok (.goto 4, 3) := by decide +kernel
theorem d_Mo_recurring_154 : decode b_Mo_recurring 154 = .ok (.iconst 0, 1) := by decide +kernel
theorem d_Mo_recurring_155 : decode b_Mo_recurring 155 = .ok (.istore 6, 2) := by decide +kernel
theorem d_Mo_recurring_157 : decode b_Mo_recurring 157 = .ok (.iload 9, 2) := by decide +kernel
theorem d_Mo_recurring_159 : decode b_Mo_recurring 159 = .ok (.ifCond .ne 52, 3) := by decide +kernel
theorem d_Mo_recurring_162 : decode b_Mo_recurring 162 = .ok (.aload_n 0, 1) := by decide +kernel
theorem d_Mo_recurring_163 : decode b_Mo_recurring 163 = .ok (.aload_n 0, 1) := by decide +kernel
theorem d_Mo_recurring_164 : decode b_Mo_recurring 164 = .ok (.getfield 19, 3) := by decide +kernel
theorem d_Mo_recurring_167 : decode b_Mo_recurring 167 = .ok (.iload 4, 2) := by decide +kernel
theorem d_Mo_recurring_169 : decode b_Mo_recurring 169 = .ok (.iaload, 1) := by decide +kernel
theorem d_Mo_recurring_170 : decode b_Mo_recurring 170 = .ok (.aload_n 0, 1) := by decide +kernel
theorem d_Mo_recurring_171 : decode b_Mo_recurring 171 = .ok (.getfield 19, 3) := by decide +kernel
theorem d_Mo_recurring_174 : decode b_Mo_recurring 174 = .ok (.iload 4, 2) := by decide +kernel
theorem d_Mo_recurring_176 : decode b_Mo_recurring 176 = .ok (.iconst 1, 1) := by decide +kernel
theorem d_Mo_recurring_177 : decode b_Mo_recurring 177 = .ok (.iadd, 1) := by decide +kernel
theorem d_Mo_recurring_178 : decode b_Mo_recurring 178 = .ok (.iaload, 1) := by decide +kernel
theorem d_Mo_recurring_179 : decode b_Mo_recurring 179 = .ok (.aload_n 0, 1) := by decide +kernel
theorem d_Mo_recurring_180 : decode b_Mo_recurring 180 = .ok (.getfield 19, 3) := by decide +kernel
theorem d_Mo_recurring_183 : decode b_Mo_recurring 183 = .ok (.iload 4, 2) := by decide +kernel
theorem d_Mo_recurring_185 : decode b_Mo_recurring 185 = .ok (.iconst 2, 1) := by decide +kernel
theorem d_Mo_recurring_186 : decode b_Mo_recurring 186 = .ok (.iadd, 1) := by decide +kernel
theorem d_Mo_recurring_187 : decode b_Mo_recurring 187 = .ok (.iaload, 1) := by decide +kernel
theorem d_Mo_recurring_188 : decode b_Mo_recurring 188 = .ok (.iload 8, 2) := by decide +kernel
theorem d_Mo_recurring_190 : decode b_Mo_recurring 190 = .ok (.iadd, 1) := by decide +kernel
theorem d_Mo_recurring_191 : decode b_Mo_recurring 191 = .ok (.aload_n 0, 1) := by decide +kernel
theorem d_Mo_recurring_192 : decode b_Mo_recurring 192 = .ok (.getfield 19, 3) := by decide +kernel
theorem d_Mo_recurring_195 : decode b_Mo_recurring 195 = .ok (.iload 4, 2) := by decide +kernel
theorem d_Mo_recurring_197 : decode b_Mo_recurring 197 = .ok (.iconst 3, 1) := by decide +kernel
theorem d_Mo_recurring_198 : decode b_Mo_recurring 198 = .ok (.iadd, 1) := by decide +kernel
theorem d_Mo_recurring_199 : decode b_Mo_recurring 199 = .ok (.iaload, 1) := by decide +kernel
theorem d_Mo_recurring_200 : decode b_Mo_recurring 200 = .ok (.iload 8, 2) := by decide +kernel
theorem d_Mo_recurring_202 : decode b_Mo_recurring 202 = .ok (.iadd, 1) := by decide +kernel
theorem d_Mo_recurring_203 : decode b_Mo_recurring 203 = .ok (.iconst 0, 1) := by decide +kernel
theorem d_Mo_recurring_204 : decode b_Mo_recurring 204 = .ok (.invokevirtual 87, 3) := by decide +kernel
theorem d_Mo_recurring_207 : decode b_Mo_recurring 207 = .ok (.pop, 1) := by decide +kernel
theorem d_Mo_recurring_208 : decode b_Mo_recurring 208 = .ok (.iinc 5 1, 3) := by decide +kernel
theorem d_Mo_recurring_211 : decode b_Mo_recurring 211 = .ok (.iinc 7 1, 3) := by decide +kernel
theorem d_Mo_recurring_214 : decode b_Mo_recurring 214 = .ok (.goto (-154), 3) := by decide +kernel
theorem d_Mo_recurring_217 : decode b_Mo_recurring 217 = .ok (.iload 5, 2) := by decide +kernel
theorem d_Mo_recurring_219 : decode b_Mo_recurring 219 = .ok (.ireturn, 1) := by decide +kernel
theorem d_Mo_wish_0 : decode b_Mo_wish 0 = .ok (.aload_n 0, 1) := by decide +kernel
theorem d_Mo_wish_1 : decode b_Mo_wish 1 = .ok (.iconst 0, 1) := by decide +kernel
theorem d_Mo_wish_2 : decode b_Mo_wish 2 = .ok (.putfield 38, 3) := by decide +kernel
theorem d_Mo_wish_5 : decode b_Mo_wish 5 = .ok (.iload_n 1, 1) := by decide +kernel
theorem d_Mo_wish_6 : decode b_Mo_wish 6 = .ok (.invokestatic 77, 3) := by decide +kernel
theorem d_Mo_wish_9 : decode b_Mo_wish 9 = .ok (.ifCond .eq 20, 3) := by decide +kernel
theorem d_Mo_wish_12 : decode b_Mo_wish 12 = .ok (.aload_n 0, 1) := by decide +kernel
theorem d_Mo_wish_13 : decode b_Mo_wish 13 = .ok (.iload_n 2, 1) := by decide +kernel
theorem d_Mo_wish_14 : decode b_Mo_wish 14 = .ok (.invokevirtual 80, 3) := by decide +kernel
theorem d_Mo_wish_17 : decode b_Mo_wish 17 = .ok (.ifCond .eq 12, 3) := by decide +kernel
theorem d_Mo_wish_20 : decode b_Mo_wish 20 = .ok (.aload_n 0, 1) := by decide +kernel
theorem d_Mo_wish_21 : decode b_Mo_wish 21 = .ok (.getfield 93, 3) := by decide +kernel
theorem d_Mo_wish_24 : decode b_Mo_wish 24 = .ok (.bipush 60, 2) := by decide +kernel
theorem d_Mo_wish_26 : decode b_Mo_wish 26 = .ok (.if_icmp .ne 5, 3) := by decide +kernel
theorem d_Mo_wish_29 : decode b_Mo_wish 29 = .ok (.iconst 0, 1) := by decide +kernel
theorem d_Mo_wish_30 : decode b_Mo_wish 30 = .ok (.ireturn, 1) := by decide +kernel
theorem d_Mo_wish_31 : decode b_Mo_wish 31 = .ok (.aload_n 0, 1) := by decide +kernel
theorem d_Mo_wish_32 : decode b_Mo_wish 32 = .ok (.iload_n 1, 1) := by decide +kernel
theorem d_Mo_wish_33 : decode b_Mo_wish 33 = .ok (.iload_n 2, 1) := by decide +kernel
theorem d_Mo_wish_34 : decode b_Mo_wish 34 = .ok (.iload_n 3, 1) := by decide +kernel
theorem d_Mo_wish_35 : decode b_Mo_wish 35 = .ok (.iload 4, 2) := by decide +kernel
theorem d_Mo_wish_37 : decode b_Mo_wish 37 = .ok (.iconst 0, 1) := by decide +kernel
theorem d_Mo_wish_38 : decode b_Mo_wish 38 = .ok (.invokevirtual 83, 3) := by decide +kernel
theorem d_Mo_wish_41 : decode b_Mo_wish 41 = .ok (.bipush (-6), 2) := by decide +kernel
theorem d_Mo_wish_43 : decode b_Mo_wish 43 = .ok (.if_icmp .eq 5, 3) := by decide +kernel
theorem d_Mo_wish_46 : decode b_Mo_wish 46 = .ok (.iconst (-1), 1) := by decide +kernel
theorem d_Mo_wish_47 : decode b_Mo_wish 47 = .ok (.ireturn, 1) := by decide +kernel
theorem d_Mo_wish_48 : decode b_Mo_wish 48 = .ok (.iconst 5, 1) := by decide +kernel
theorem d_Mo_wish_49 : decode b_Mo_wish 49 = .ok (.aload_n 0, 1) := by decide +kernel
theorem d_Mo_wish_50 : decode b_Mo_wish 50 = .ok (.getfield 93, 3) := by decide +kernel
theorem d_Mo_wish_53 : decode b_Mo_wish 53 = .ok (.imul, 1) := by decide +kernel
theorem d_Mo_wish_54 : decode b_Mo_wish 54 = .ok (.istore 6, 2) := by decide +kernel
theorem d_Mo_wish_56 : decode b_Mo_wish 56 = .ok (.aload_n 0, 1) := by decide +kernel
theorem d_Mo_wish_57 : decode b_Mo_wish 57 = .ok (.getfield 22, 3) := by decide +kernel
theorem d_Mo_wish_60 : decode b_Mo_wish 60 = .ok (.iload 6, 2) := by decide +kernel
theorem d_Mo_wish_62 : decode b_Mo_wish 62 = .ok (.iload_n 1, 1) := by decide +kernel
theorem d_Mo_wish_63 : decode b_Mo_wish 63 = .ok (.iastore, 1) := by decide +kernel
theorem d_Mo_wish_64 : decode b_Mo_wish 64 = .ok (.aload_n 0, 1) := by decide +kernel
theorem d_Mo_wish_65 : decode b_Mo_wish 65 = .ok (.getfield 22, 3) := by decide +kernel
theorem d_Mo_wish_68 : decode b_Mo_wish 68 = .ok (.iload 6, 2) := by decide +kernel
theorem d_Mo_wish_70 : decode b_Mo_wish 70 = .ok (.iconst 1, 1) := by decide +kernel
theorem d_Mo_wish_71 : decode b_Mo_wish 71 = .ok (.iadd, 1) := by decide +kernel
theorem d_Mo_wish_72 : decode b_Mo_wish 72 = .ok (.iload_n 2, 1) := by decide +kernel
theorem d_Mo_wish_73 : decode b_Mo_wish 73 = .ok (.iastore, 1) := by decide +kernel
theorem d_Mo_wish_74 : decode b_Mo_wish 74 = .ok (.aload_n 0, 1) := by decide +kernel
theorem d_Mo_wish_75 : decode b_Mo_wish 75 = .ok (.getfield 22, 3) := by decide +kernel
theorem d_Mo_wish_78 : decode b_Mo_wish 78 = .ok (.iload 6, 2) := by decide +kernel
theorem d_Mo_wish_80 : decode b_Mo_wish 80 = .ok (.iconst 2, 1) := by decide +kernel
theorem d_Mo_wish_81 : decode b_Mo_wish 81 = .ok (.iadd, 1) := by decide +kernel
theorem d_Mo_wish_82 : decode b_Mo_wish 82 = .ok (.iload_n 3, 1) := by decide +kernel
theorem d_Mo_wish_83 : decode b_Mo_wish 83 = .ok (.iastore, 1) := by decide +kernel
theorem d_Mo_wish_84 : decode b_Mo_wish 84 = .ok (.aload_n 0, 1) := by decide +kernel
theorem d_Mo_wish_85 : decode b_Mo_wish 85 = .ok (.getfield 22, 3) := by decide +kernel
theorem d_Mo_wish_88 : decode b_Mo_wish 88 = .ok (.iload 6, 2) := by decide +kernel
theorem d_Mo_wish_90 : decode b_Mo_wish 90 = .ok (.iconst 3, 1) := by decide +kernel
theorem d_Mo_wish_91 : decode b_Mo_wish 91 = .ok (.iadd, 1) := by decide +kernel
theorem d_Mo_wish_92 : decode b_Mo_wish 92 = .ok (.iload 4, 2) := by decide +kernel
theorem d_Mo_wish_94 : decode b_Mo_wish 94 = .ok (.iastore, 1) := by decide +kernel
theorem d_Mo_wish_95 : decode b_Mo_wish 95 = .ok (.aload_n 0, 1) := by decide +kernel
theorem d_Mo_wish_96 : decode b_Mo_wish 96 = .ok (.getfield 22, 3) := by decide +kernel
theorem d_Mo_wish_99 : decode b_Mo_wish 99 = .ok (.iload 6, 2) := by decide +kernel
theorem d_Mo_wish_101 : decode b_Mo_wish 101 = .ok (.iconst 4, 1) := by decide +kernel
theorem d_Mo_wish_102 : decode b_Mo_wish 102 = .ok (.iadd, 1) := by decide +kernel
theorem d_Mo_wish_103 : decode b_Mo_wish 103 = .ok (.iload 5, 2) := by decide +kernel
theorem d_Mo_wish_105 : decode b_Mo_wish 105 = .ok (.iastore, 1) := by decide +kernel
theorem d_Mo_wish_106 : decode b_Mo_wish 106 = .ok (.aload_n 0, 1) := by decide +kernel
theorem d_Mo_wish_107 : decode b_Mo_wish 107 = .ok (.dup, 1) := by decide +kernel
theorem d_Mo_wish_108 : decode b_Mo_wish 108 = .ok (.getfield 93, 3) := by decide +kernel
theorem d_Mo_wish_111 : decode b_Mo_wish 111 = .ok (.iconst 1, 1) := by decide +kernel
theorem d_Mo_wish_112 : decode b_Mo_wish 112 = .ok (.iadd, 1) := by decide +kernel
theorem d_Mo_wish_113 : decode b_Mo_wish 113 = .ok (.putfield 93, 3) := by decide +kernel
theorem d_Mo_wish_116 : decode b_Mo_wish 116 = .ok (.aload_n 0, 1) := by decide +kernel
theorem d_Mo_wish_117 : decode b_Mo_wish 117 = .ok (.getfield 93, 3) := by decide +kernel
