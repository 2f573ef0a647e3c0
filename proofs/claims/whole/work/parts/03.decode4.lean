theorem dX11_chosen_0 : decode cX11_chosen 0 = .ok (.aload_n 0, 1) := by decide +kernel
theorem dX11_chosen_1 : decode cX11_chosen 1 = .ok (.iload_n 1, 1) := by decide +kernel
theorem dX11_chosen_2 : decode cX11_chosen 2 = .ok (.invokevirtual 188, 3) := by decide +kernel
theorem dX11_chosen_5 : decode cX11_chosen 5 = .ok (.ifCond .eq 20, 3) := by decide +kernel
theorem dX11_chosen_8 : decode cX11_chosen 8 = .ok (.iload_n 2, 1) := by decide +kernel
theorem dX11_chosen_9 : decode cX11_chosen 9 = .ok (.invokestatic 208, 3) := by decide +kernel
theorem dX11_chosen_12 : decode cX11_chosen 12 = .ok (.ifCond .eq 13, 3) := by decide +kernel
theorem dX11_chosen_15 : decode cX11_chosen 15 = .ok (.aload_n 0, 1) := by decide +kernel
theorem dX11_chosen_16 : decode cX11_chosen 16 = .ok (.iload_n 1, 1) := by decide +kernel
theorem dX11_chosen_17 : decode cX11_chosen 17 = .ok (.iload_n 2, 1) := by decide +kernel
theorem dX11_chosen_18 : decode cX11_chosen 18 = .ok (.iconst 0, 1) := by decide +kernel
theorem dX11_chosen_19 : decode cX11_chosen 19 = .ok (.invokevirtual 297, 3) := by decide +kernel
theorem dX11_chosen_22 : decode cX11_chosen 22 = .ok (.goto 4, 3) := by decide +kernel
theorem dX11_chosen_25 : decode cX11_chosen 25 = .ok (.iconst (-1), 1) := by decide +kernel
theorem dX11_chosen_26 : decode cX11_chosen 26 = .ok (.ireturn, 1) := by decide +kernel
theorem dX11_answer_0 : decode cX11_answer 0 = .ok (.aload_n 0, 1) := by decide +kernel
theorem dX11_answer_1 : decode cX11_answer 1 = .ok (.iload_n 1, 1) := by decide +kernel
theorem dX11_answer_2 : decode cX11_answer 2 = .ok (.invokevirtual 274, 3) := by decide +kernel
theorem dX11_answer_5 : decode cX11_answer 5 = .ok (.ifCond .eq 27, 3) := by decide +kernel
theorem dX11_answer_8 : decode cX11_answer 8 = .ok (.iload_n 2, 1) := by decide +kernel
theorem dX11_answer_9 : decode cX11_answer 9 = .ok (.invokestatic 208, 3) := by decide +kernel
theorem dX11_answer_12 : decode cX11_answer 12 = .ok (.ifCond .eq 20, 3) := by decide +kernel
theorem dX11_answer_15 : decode cX11_answer 15 = .ok (.aload_n 0, 1) := by decide +kernel
theorem dX11_answer_16 : decode cX11_answer 16 = .ok (.iload_n 1, 1) := by decide +kernel
theorem dX11_answer_17 : decode cX11_answer 17 = .ok (.bipush 10, 2) := by decide +kernel
theorem dX11_answer_19 : decode cX11_answer 19 = .ok (.idiv, 1) := by decide +kernel
theorem dX11_answer_20 : decode cX11_answer 20 = .ok (.iload_n 1, 1) := by decide +kernel
theorem dX11_answer_21 : decode cX11_answer 21 = .ok (.bipush 10, 2) := by decide +kernel
theorem dX11_answer_23 : decode cX11_answer 23 = .ok (.irem, 1) := by decide +kernel
theorem dX11_answer_24 : decode cX11_answer 24 = .ok (.iload_n 2, 1) := by decide +kernel
theorem dX11_answer_25 : decode cX11_answer 25 = .ok (.iconst 0, 1) := by decide +kernel
theorem dX11_answer_26 : decode cX11_answer 26 = .ok (.invokevirtual 279, 3) := by decide +kernel
theorem dX11_answer_29 : decode cX11_answer 29 = .ok (.ifCond .ne 7, 3) := by decide +kernel
theorem dX11_answer_32 : decode cX11_answer 32 = .ok (.ldc_w 291, 3) := by decide +kernel
theorem dX11_answer_35 : decode cX11_answer 35 = .ok (.ireturn, 1) := by decide +kernel
theorem dX11_answer_36 : decode cX11_answer 36 = .ok (.aload_n 0, 1) := by decide +kernel
theorem dX11_answer_37 : decode cX11_answer 37 = .ok (.getfield 9, 3) := by decide +kernel
theorem dX11_answer_40 : decode cX11_answer 40 = .ok (.iconst 5, 1) := by decide +kernel
theorem dX11_answer_41 : decode cX11_answer 41 = .ok (.iload_n 1, 1) := by decide +kernel
theorem dX11_answer_42 : decode cX11_answer 42 = .ok (.bipush 10, 2) := by decide +kernel
theorem dX11_answer_44 : decode cX11_answer 44 = .ok (.idiv, 1) := by decide +kernel
theorem dX11_answer_45 : decode cX11_answer 45 = .ok (.imul, 1) := by decide +kernel
theorem dX11_answer_46 : decode cX11_answer 46 = .ok (.iconst 4, 1) := by decide +kernel
theorem dX11_answer_47 : decode cX11_answer 47 = .ok (.iadd, 1) := by decide +kernel
theorem dX11_answer_48 : decode cX11_answer 48 = .ok (.iaload, 1) := by decide +kernel
theorem dX11_answer_49 : decode cX11_answer 49 = .ok (.istore 4, 2) := by decide +kernel
theorem dX11_answer_51 : decode cX11_answer 51 = .ok (.iload_n 3, 1) := by decide +kernel
theorem dX11_answer_52 : decode cX11_answer 52 = .ok (.istore 5, 2) := by decide +kernel
theorem dX11_answer_54 : decode cX11_answer 54 = .ok (.iload_n 2, 1) := by decide +kernel
theorem dX11_answer_55 : decode cX11_answer 55 = .ok (.sipush 10000, 3) := by decide +kernel
theorem dX11_answer_58 : decode cX11_answer 58 = .ok (.idiv, 1) := by decide +kernel
theorem dX11_answer_59 : decode cX11_answer 59 = .ok (.iload_n 2, 1) := by decide +kernel
theorem dX11_answer_60 : decode cX11_answer 60 = .ok (.sipush 10000, 3) := by decide +kernel
theorem dX11_answer_63 : decode cX11_answer 63 = .ok (.irem, 1) := by decide +kernel
theorem dX11_answer_64 : decode cX11_answer 64 = .ok (.imul, 1) := by decide +kernel
theorem dX11_answer_65 : decode cX11_answer 65 = .ok (.istore 6, 2) := by decide +kernel
theorem dX11_answer_67 : decode cX11_answer 67 = .ok (.iconst 0, 1) := by decide +kernel
theorem dX11_answer_68 : decode cX11_answer 68 = .ok (.istore 7, 2) := by decide +kernel
theorem dX11_answer_70 : decode cX11_answer 70 = .ok (.iload 7, 2) := by decide +kernel
theorem dX11_answer_72 : decode cX11_answer 72 = .ok (.aload_n 0, 1) := by decide +kernel
theorem dX11_answer_73 : decode cX11_answer 73 = .ok (.getfield 214, 3) := by decide +kernel
theorem dX11_answer_76 : decode cX11_answer 76 = .ok (.if_icmp .ge 166, 3) := by decide +kernel
theorem dX11_answer_79 : decode cX11_answer 79 = .ok (.aload_n 0, 1) := by decide +kernel
theorem dX11_answer_80 : decode cX11_answer 80 = .ok (.getfield 52, 3) := by decide +kernel
theorem dX11_answer_83 : decode cX11_answer 83 = .ok (.iload 7, 2) := by decide +kernel
theorem dX11_answer_85 : decode cX11_answer 85 = .ok (.iaload, 1) := by decide +kernel
theorem dX11_answer_86 : decode cX11_answer 86 = .ok (.iload 4, 2) := by decide +kernel
theorem dX11_answer_88 : decode cX11_answer 88 = .ok (.isub, 1) := by decide +kernel
theorem dX11_answer_89 : decode cX11_answer 89 = .ok (.istore 8, 2) := by decide +kernel
theorem dX11_answer_91 : decode cX11_answer 91 = .ok (.iload 8, 2) := by decide +kernel
theorem dX11_answer_93 : decode cX11_answer 93 = .ok (.ifCond .gt 6, 3) := by decide +kernel
theorem dX11_answer_96 : decode cX11_answer 96 = .ok (.goto 140, 3) := by decide +kernel
theorem dX11_answer_99 : decode cX11_answer 99 = .ok (.iload 5, 2) := by decide +kernel
theorem dX11_answer_101 : decode cX11_answer 101 = .ok (.ldc_w 301, 3) := by decide +kernel
theorem dX11_answer_104 : decode cX11_answer 104 = .ok (.imul, 1) := by decide +kernel
theorem dX11_answer_105 : decode cX11_answer 105 = .ok (.sipush 12345, 3) := by decide +kernel
theorem dX11_answer_108 : decode cX11_answer 108 = .ok (.iadd, 1) := by decide +kernel
theorem dX11_answer_109 : decode cX11_answer 109 = .ok (.istore 5, 2) := by decide +kernel
theorem dX11_answer_111 : decode cX11_answer 111 = .ok (.iload 5, 2) := by decide +kernel
theorem dX11_answer_113 : decode cX11_answer 113 = .ok (.bipush 8, 2) := by decide +kernel
theorem dX11_answer_115 : decode cX11_answer 115 = .ok (.iushr, 1) := by decide +kernel
theorem dX11_answer_116 : decode cX11_answer 116 = .ok (.bipush 100, 2) := by decide +kernel
theorem dX11_answer_118 : decode cX11_answer 118 = .ok (.irem, 1) := by decide +kernel
theorem dX11_answer_119 : decode cX11_answer 119 = .ok (.iconst 5, 1) := by decide +kernel
theorem dX11_answer_120 : decode cX11_answer 120 = .ok (.iload 8, 2) := by decide +kernel
theorem dX11_answer_122 : decode cX11_answer 122 = .ok (.imul, 1) := by decide +kernel
theorem dX11_answer_123 : decode cX11_answer 123 = .ok (.bipush 95, 2) := by decide +kernel
theorem dX11_answer_125 : decode cX11_answer 125 = .ok (.if_icmp .le 8, 3) := by decide +kernel
theorem dX11_answer_128 : decode cX11_answer 128 = .ok (.bipush 95, 2) := by decide +kernel
theorem dX11_answer_130 : decode cX11_answer 130 = .ok (.goto 7, 3) := by decide +kernel
theorem dX11_answer_133 : decode cX11_answer 133 = .ok (.iconst 5, 1) := by decide +kernel
theorem dX11_answer_134 : decode cX11_answer 134 = .ok (.iload 8, 2) := by decide +kernel
theorem dX11_answer_136 : decode cX11_answer 136 = .ok (.imul, 1) := by decide +kernel
theorem dX11_answer_137 : decode cX11_answer 137 = .ok (.if_icmp .lt 6, 3) := by decide +kernel
theorem dX11_answer_140 : decode cX11_answer 140 = .ok (.goto 96, 3) := by decide +kernel
theorem dX11_answer_143 : decode cX11_answer 143 = .ok (.aload_n 0, 1) := by decide +kernel
theorem dX11_answer_144 : decode cX11_answer 144 = .ok (.getfield 43, 3) := by decide +kernel
theorem dX11_answer_147 : decode cX11_answer 147 = .ok (.iload 7, 2) := by decide +kernel
theorem dX11_answer_149 : decode cX11_answer 149 = .ok (.iaload, 1) := by decide +kernel
theorem dX11_answer_150 : decode cX11_answer 150 = .ok (.ifCond .ne 40, 3) := by decide +kernel
theorem dX11_answer_153 : decode cX11_answer 153 = .ok (.iload 6, 2) := by decide +kernel
theorem dX11_answer_155 : decode cX11_answer 155 = .ok (.iload 5, 2) := by decide +kernel
theorem dX11_answer_157 : decode cX11_answer 157 = .ok (.bipush 20, 2) := by decide +kernel
theorem dX11_answer_159 : decode cX11_answer 159 = .ok (.iushr, 1) := by decide +kernel
theorem dX11_answer_160 : decode cX11_answer 160 = .ok (.iconst 2, 1) := by decide +kernel
theorem dX11_answer_161 : decode cX11_answer 161 = .ok (.irem, 1) := by decide +kernel
theorem dX11_answer_162 : decode cX11_answer 162 = .ok (.iconst 1, 1) := by decide +kernel
theorem dX11_answer_163 : decode cX11_answer 163 = .ok (.if_icmp .ne 13, 3) := by decide +kernel
theorem dX11_answer_166 : decode cX11_answer 166 = .ok (.aload_n 0, 1) := by decide +kernel
theorem dX11_answer_167 : decode cX11_answer 167 = .ok (.getfield 55, 3) := by decide +kernel
theorem dX11_answer_170 : decode cX11_answer 170 = .ok (.iload 7, 2) := by decide +kernel
theorem dX11_answer_172 : decode cX11_answer 172 = .ok (.iaload, 1) := by decide +kernel
theorem dX11_answer_173 : decode cX11_answer 173 = .ok (.goto 11, 3) := by decide +kernel
theorem dX11_answer_176 : decode cX11_answer 176 = .ok (.aload_n 0, 1) := by decide +kernel
theorem dX11_answer_177 : decode cX11_answer 177 = .ok (.getfield 55, 3) := by decide +kernel
theorem dX11_answer_180 : decode cX11_answer 180 = .ok (.iload 7, 2) := by decide +kernel
theorem dX11_answer_182 : decode cX11_answer 182 = .ok (.iaload, 1) := by decide +kernel
theorem dX11_answer_183 : decode cX11_answer 183 = .ok (.ineg, 1) := by decide +kernel
theorem dX11_answer_184 : decode cX11_answer 184 = .ok (.iadd, 1) := by decide +kernel
theorem dX11_answer_185 : decode cX11_answer 185 = .ok (.istore 6, 2) := by decide +kernel
theorem dX11_answer_187 : decode cX11_answer 187 = .ok (.goto 49, 3) := by decide +kernel
theorem dX11_answer_190 : decode cX11_answer 190 = .ok (.aload_n 0, 1) := by decide +kernel
theorem dX11_answer_191 : decode cX11_answer 191 = .ok (.getfield 43, 3) := by decide +kernel
theorem dX11_answer_194 : decode cX11_answer 194 = .ok (.iload 7, 2) := by decide +kernel
theorem dX11_answer_196 : decode cX11_answer 196 = .ok (.iaload, 1) := by decide +kernel
theorem dX11_answer_197 : decode cX11_answer 197 = .ok (.iconst 1, 1) := by decide +kernel
theorem dX11_answer_198 : decode cX11_answer 198 = .ok (.if_icmp .ne 38, 3) := by decide +kernel
theorem dX11_answer_201 : decode cX11_answer 201 = .ok (.iload 6, 2) := by decide +kernel
theorem dX11_answer_203 : decode cX11_answer 203 = .ok (.iload 5, 2) := by decide +kernel
theorem dX11_answer_205 : decode cX11_answer 205 = .ok (.bipush 20, 2) := by decide +kernel
theorem dX11_answer_207 : decode cX11_answer 207 = .ok (.iushr, 1) := by decide +kernel
theorem dX11_answer_208 : decode cX11_answer 208 = .ok (.aload_n 0, 1) := by decide +kernel
theorem dX11_answer_209 : decode cX11_answer 209 = .ok (.getfield 46, 3) := by decide +kernel
theorem dX11_answer_212 : decode cX11_answer 212 = .ok (.iload 7, 2) := by decide +kernel
theorem dX11_answer_214 : decode cX11_answer 214 = .ok (.iaload, 1) := by decide +kernel
theorem dX11_answer_215 : decode cX11_answer 215 = .ok (.invokestatic 220, 3) := by decide +kernel
theorem dX11_answer_218 : decode cX11_answer 218 = .ok (.irem, 1) := by decide +kernel
theorem dX11_answer_219 : decode cX11_answer 219 = .ok (.invokestatic 233, 3) := by decide +kernel
theorem dX11_answer_222 : decode cX11_answer 222 = .ok (.aload_n 0, 1) := by decide +kernel
theorem dX11_answer_223 : decode cX11_answer 223 = .ok (.getfield 58, 3) := by decide +kernel
theorem dX11_answer_226 : decode cX11_answer 226 = .ok (.iload 7, 2) := by decide +kernel
theorem dX11_answer_228 : decode cX11_answer 228 = .ok (.iaload, 1) := by decide +kernel
theorem dX11_answer_229 : decode cX11_answer 229 = .ok (.invokestatic 233, 3) := by decide +kernel
theorem dX11_answer_232 : decode cX11_answer 232 = .ok (.imul, 1) := by decide +kernel
theorem dX11_answer_233 : decode cX11_answer 233 = .ok (.isub, 1) := by decide +kernel
theorem dX11_answer_234 : decode cX11_answer 234 = .ok (.istore 6, 2) := by decide +kernel
theorem dX11_answer_236 : decode cX11_answer 236 = .ok (.iinc 7 1, 3) := by decide +kernel
theorem dX11_answer_239 : decode cX11_answer 239 = .ok (.goto (-169), 3) := by decide +kernel
theorem dX11_answer_242 : decode cX11_answer 242 = .ok (.iload 6, 2) := by decide +kernel
theorem dX11_answer_244 : decode cX11_answer 244 = .ok (.ireturn, 1) := by decide +kernel
theorem dX11_quickest_0 : decode cX11_quickest 0 = .ok (.aload_n 0, 1) := by decide +kernel
theorem dX11_quickest_1 : decode cX11_quickest 1 = .ok (.iload_n 1, 1) := by decide +kernel
theorem dX11_quickest_2 : decode cX11_quickest 2 = .ok (.invokevirtual 188, 3) := by decide +kernel
theorem dX11_quickest_5 : decode cX11_quickest 5 = .ok (.ifCond .eq 22, 3) := by decide +kernel
theorem dX11_quickest_8 : decode cX11_quickest 8 = .ok (.iload_n 2, 1) := by decide +kernel
theorem dX11_quickest_9 : decode cX11_quickest 9 = .ok (.invokestatic 208, 3) := by decide +kernel
theorem dX11_quickest_12 : decode cX11_quickest 12 = .ok (.ifCond .eq 15, 3) := by decide +kernel
theorem dX11_quickest_15 : decode cX11_quickest 15 = .ok (.iload_n 3, 1) := by decide +kernel
theorem dX11_quickest_16 : decode cX11_quickest 16 = .ok (.i2l, 1) := by decide +kernel
theorem dX11_quickest_17 : decode cX11_quickest 17 = .ok (.lconst 1, 1) := by decide +kernel
theorem dX11_quickest_18 : decode cX11_quickest 18 = .ok (.ldc2_w 175, 3) := by decide +kernel
theorem dX11_quickest_21 : decode cX11_quickest 21 = .ok (.invokestatic 113, 3) := by decide +kernel
theorem dX11_quickest_24 : decode cX11_quickest 24 = .ok (.ifCond .ne 5, 3) := by decide +kernel
theorem dX11_quickest_27 : decode cX11_quickest 27 = .ok (.iconst (-1), 1) := by decide +kernel
theorem dX11_quickest_28 : decode cX11_quickest 28 = .ok (.ireturn, 1) := by decide +kernel
theorem dX11_quickest_29 : decode cX11_quickest 29 = .ok (.bipush (-2), 2) := by decide +kernel
theorem dX11_quickest_31 : decode cX11_quickest 31 = .ok (.istore 4, 2) := by decide +kernel
theorem dX11_quickest_33 : decode cX11_quickest 33 = .ok (.iconst 0, 1) := by decide +kernel
theorem dX11_quickest_34 : decode cX11_quickest 34 = .ok (.istore 5, 2) := by decide +kernel
theorem dX11_quickest_36 : decode cX11_quickest 36 = .ok (.iconst 0, 1) := by decide +kernel
theorem dX11_quickest_37 : decode cX11_quickest 37 = .ok (.istore 6, 2) := by decide +kernel
theorem dX11_quickest_39 : decode cX11_quickest 39 = .ok (.iload 6, 2) := by decide +kernel
theorem dX11_quickest_41 : decode cX11_quickest 41 = .ok (.bipush 7, 2) := by decide +kernel
theorem dX11_quickest_43 : decode cX11_quickest 43 = .ok (.if_icmp .ge 53, 3) := by decide +kernel
theorem dX11_quickest_46 : decode cX11_quickest 46 = .ok (.aload_n 0, 1) := by decide +kernel
theorem dX11_quickest_47 : decode cX11_quickest 47 = .ok (.iload_n 1, 1) := by decide +kernel
theorem dX11_quickest_48 : decode cX11_quickest 48 = .ok (.iload 6, 2) := by decide +kernel
theorem dX11_quickest_50 : decode cX11_quickest 50 = .ok (.iload_n 2, 1) := by decide +kernel
theorem dX11_quickest_51 : decode cX11_quickest 51 = .ok (.iconst 0, 1) := by decide +kernel
theorem dX11_quickest_52 : decode cX11_quickest 52 = .ok (.invokevirtual 279, 3) := by decide +kernel
theorem dX11_quickest_55 : decode cX11_quickest 55 = .ok (.ifCond .eq 35, 3) := by decide +kernel
theorem dX11_quickest_58 : decode cX11_quickest 58 = .ok (.aload_n 0, 1) := by decide +kernel
theorem dX11_quickest_59 : decode cX11_quickest 59 = .ok (.invokevirtual 286, 3) := by decide +kernel
theorem dX11_quickest_62 : decode cX11_quickest 62 = .ok (.iload_n 3, 1) := by decide +kernel
theorem dX11_quickest_63 : decode cX11_quickest 63 = .ok (.if_icmp .gt 27, 3) := by decide +kernel
theorem dX11_quickest_66 : decode cX11_quickest 66 = .ok (.iload 4, 2) := by decide +kernel
theorem dX11_quickest_68 : decode cX11_quickest 68 = .ok (.ifCond .lt 12, 3) := by decide +kernel
theorem dX11_quickest_71 : decode cX11_quickest 71 = .ok (.aload_n 0, 1) := by decide +kernel
theorem dX11_quickest_72 : decode cX11_quickest 72 = .ok (.invokevirtual 283, 3) := by decide +kernel
theorem dX11_quickest_75 : decode cX11_quickest 75 = .ok (.iload 5, 2) := by decide +kernel
theorem dX11_quickest_77 : decode cX11_quickest 77 = .ok (.if_icmp .ge 13, 3) := by decide +kernel
theorem dX11_quickest_80 : decode cX11_quickest 80 = .ok (.iload 6, 2) := by decide +kernel
theorem dX11_quickest_82 : decode cX11_quickest 82 = .ok (.istore 4, 2) := by decide +kernel
theorem dX11_quickest_84 : decode cX11_quickest 84 = .ok (.aload_n 0, 1) := by decide +kernel
theorem dX11_quickest_85 : decode cX11_quickest 85 = .ok (.invokevirtual 283, 3) := by decide +kernel
theorem dX11_quickest_88 : decode cX11_quickest 88 = .ok (.istore 5, 2) := by decide +kernel
theorem dX11_quickest_90 : decode cX11_quickest 90 = .ok (.iinc 6 1, 3) := by decide +kernel
theorem dX11_quickest_93 : decode cX11_quickest 93 = .ok (.goto (-54), 3) := by decide +kernel
theorem dX11_quickest_96 : decode cX11_quickest 96 = .ok (.iload 4, 2) := by decide +kernel
theorem dX11_quickest_98 : decode cX11_quickest 98 = .ok (.ireturn, 1) := by decide +kernel
theorem dX11_table_0 : decode cX11_table 0 = .ok (.aload_n 0, 1) := by decide +kernel
theorem dX11_table_1 : decode cX11_table 1 = .ok (.iload_n 1, 1) := by decide +kernel
theorem dX11_table_2 : decode cX11_table 2 = .ok (.invokevirtual 188, 3) := by decide +kernel
theorem dX11_table_5 : decode cX11_table 5 = .ok (.ifCond .eq 10, 3) := by decide +kernel
theorem dX11_table_8 : decode cX11_table 8 = .ok (.iload_n 2, 1) := by decide +kernel
theorem dX11_table_9 : decode cX11_table 9 = .ok (.invokestatic 208, 3) := by decide +kernel
theorem dX11_table_12 : decode cX11_table 12 = .ok (.ifCond .ne 5, 3) := by decide +kernel
theorem dX11_table_15 : decode cX11_table 15 = .ok (.iconst (-1), 1) := by decide +kernel
theorem dX11_table_16 : decode cX11_table 16 = .ok (.ireturn, 1) := by decide +kernel
theorem dX11_table_17 : decode cX11_table 17 = .ok (.bipush 9, 2) := by decide +kernel
theorem dX11_table_19 : decode cX11_table 19 = .ok (.istore 4, 2) := by decide +kernel
theorem dX11_table_21 : decode cX11_table 21 = .ok (.iload 4, 2) := by decide +kernel
theorem dX11_table_23 : decode cX11_table 23 = .ok (.bipush 99, 2) := by decide +kernel
theorem dX11_table_25 : decode cX11_table 25 = .ok (.if_icmp .gt 30, 3) := by decide +kernel
theorem dX11_table_28 : decode cX11_table 28 = .ok (.aload_n 0, 1) := by decide +kernel
theorem dX11_table_29 : decode cX11_table 29 = .ok (.iload_n 1, 1) := by decide +kernel
theorem dX11_table_30 : decode cX11_table 30 = .ok (.iload_n 2, 1) := by decide +kernel
theorem dX11_table_31 : decode cX11_table 31 = .ok (.iload 4, 2) := by decide +kernel
theorem dX11_table_33 : decode cX11_table 33 = .ok (.invokevirtual 297, 3) := by decide +kernel
theorem dX11_table_36 : decode cX11_table 36 = .ok (.istore 5, 2) := by decide +kernel
theorem dX11_table_38 : decode cX11_table 38 = .ok (.aload_n 0, 1) := by decide +kernel
theorem dX11_table_39 : decode cX11_table 39 = .ok (.invokevirtual 283, 3) := by decide +kernel
theorem dX11_table_42 : decode cX11_table 42 = .ok (.iload_n 3, 1) := by decide +kernel
theorem dX11_table_43 : decode cX11_table 43 = .ok (.if_icmp .gt 6, 3) := by decide +kernel
theorem dX11_table_46 : decode cX11_table 46 = .ok (.iload 4, 2) := by decide +kernel
theorem dX11_table_48 : decode cX11_table 48 = .ok (.ireturn, 1) := by decide +kernel
theorem dX11_table_49 : decode cX11_table 49 = .ok (.iinc 4 1, 3) := by decide +kernel
theorem dX11_table_52 : decode cX11_table 52 = .ok (.goto (-31), 3) := by decide +kernel
theorem dX11_table_55 : decode cX11_table 55 = .ok (.bipush (-2), 2) := by decide +kernel
theorem dX11_table_57 : decode cX11_table 57 = .ok (.ireturn, 1) := by decide +kernel
theorem dX11_see_0 : decode cX11_see 0 = .ok (.iload_n 1, 1) := by decide +kernel
theorem dX11_see_1 : decode cX11_see 1 = .ok (.invokestatic 208, 3) := by decide +kernel
theorem dX11_see_4 : decode cX11_see 4 = .ok (.ifCond .eq 29, 3) := by decide +kernel
theorem dX11_see_7 : decode cX11_see 7 = .ok (.iload_n 2, 1) := by decide +kernel
theorem dX11_see_8 : decode cX11_see 8 = .ok (.i2l, 1) := by decide +kernel
theorem dX11_see_9 : decode cX11_see 9 = .ok (.lconst 0, 1) := by decide +kernel
theorem dX11_see_10 : decode cX11_see 10 = .ok (.ldc2_w 197, 3) := by decide +kernel
theorem dX11_see_13 : decode cX11_see 13 = .ok (.invokestatic 113, 3) := by decide +kernel
theorem dX11_see_16 : decode cX11_see 16 = .ok (.ifCond .eq 17, 3) := by decide +kernel
theorem dX11_see_19 : decode cX11_see 19 = .ok (.iload_n 3, 1) := by decide +kernel
theorem dX11_see_20 : decode cX11_see 20 = .ok (.i2l, 1) := by decide +kernel
theorem dX11_see_21 : decode cX11_see 21 = .ok (.ldc2_w 302, 3) := by decide +kernel
theorem dX11_see_24 : decode cX11_see 24 = .ok (.ldc2_w 304, 3) := by decide +kernel
theorem dX11_see_27 : decode cX11_see 27 = .ok (.invokestatic 113, 3) := by decide +kernel
theorem dX11_see_30 : decode cX11_see 30 = .ok (.ifCond .ne 5, 3) := by decide +kernel
theorem dX11_see_33 : decode cX11_see 33 = .ok (.iconst (-1), 1) := by decide +kernel
theorem dX11_see_34 : decode cX11_see 34 = .ok (.ireturn, 1) := by decide +kernel
theorem dX11_see_35 : decode cX11_see 35 = .ok (.aload_n 0, 1) := by decide +kernel
theorem dX11_see_36 : decode cX11_see 36 = .ok (.getfield 306, 3) := by decide +kernel
theorem dX11_see_39 : decode cX11_see 39 = .ok (.bipush 40, 2) := by decide +kernel
theorem dX11_see_41 : decode cX11_see 41 = .ok (.if_icmp .ne 6, 3) := by decide +kernel
theorem dX11_see_44 : decode cX11_see 44 = .ok (.bipush (-3), 2) := by decide +kernel
theorem dX11_see_46 : decode cX11_see 46 = .ok (.ireturn, 1) := by decide +kernel
theorem dX11_see_47 : decode cX11_see 47 = .ok (.aload_n 0, 1) := by decide +kernel
theorem dX11_see_48 : decode cX11_see 48 = .ok (.getfield 64, 3) := by decide +kernel
theorem dX11_see_51 : decode cX11_see 51 = .ok (.aload_n 0, 1) := by decide +kernel
theorem dX11_see_52 : decode cX11_see 52 = .ok (.getfield 306, 3) := by decide +kernel
theorem dX11_see_55 : decode cX11_see 55 = .ok (.iload_n 1, 1) := by decide +kernel
theorem dX11_see_56 : decode cX11_see 56 = .ok (.iastore, 1) := by decide +kernel
theorem dX11_see_57 : decode cX11_see 57 = .ok (.aload_n 0, 1) := by decide +kernel
theorem dX11_see_58 : decode cX11_see 58 = .ok (.getfield 67, 3) := by decide +kernel
theorem dX11_see_61 : decode cX11_see 61 = .ok (.aload_n 0, 1) := by decide +kernel
theorem dX11_see_62 : decode cX11_see 62 = .ok (.getfield 306, 3) := by decide +kernel
theorem dX11_see_65 : decode cX11_see 65 = .ok (.iload_n 2, 1) := by decide +kernel
theorem dX11_see_66 : decode cX11_see 66 = .ok (.iastore, 1) := by decide +kernel
theorem dX11_see_67 : decode cX11_see 67 = .ok (.aload_n 0, 1) := by decide +kernel
theorem dX11_see_68 : decode cX11_see 68 = .ok (.getfield 70, 3) := by decide +kernel
theorem dX11_see_71 : decode cX11_see 71 = .ok (.aload_n 0, 1) := by decide +kernel
theorem dX11_see_72 : decode cX11_see 72 = .ok (.getfield 306, 3) := by decide +kernel
theorem dX11_see_75 : decode cX11_see 75 = .ok (.iload_n 3, 1) := by decide +kernel
theorem dX11_see_76 : decode cX11_see 76 = .ok (.iastore, 1) := by decide +kernel
theorem dX11_see_77 : decode cX11_see 77 = .ok (.aload_n 0, 1) := by decide +kernel
theorem dX11_see_78 : decode cX11_see 78 = .ok (.dup, 1) := by decide +kernel
theorem dX11_see_79 : decode cX11_see 79 = .ok (.getfield 306, 3) := by decide +kernel
theorem dX11_see_82 : decode cX11_see 82 = .ok (.iconst 1, 1) := by decide +kernel
theorem dX11_see_83 : decode cX11_see 83 = .ok (.iadd, 1) := by decide +kernel
theorem dX11_see_84 : decode cX11_see 84 = .ok (.putfield 306, 3) := by decide +kernel
theorem dX11_see_87 : decode cX11_see 87 = .ok (.aload_n 0, 1) := by decide +kernel
theorem dX11_see_88 : decode cX11_see 88 = .ok (.getfield 306, 3) := by decide +kernel
theorem dX11_see_91 : decode cX11_see 91 = .ok (.iconst 1, 1) := by decide +kernel
theorem dX11_see_92 : decode cX11_see 92 = .ok (.isub, 1) := by decide +kernel
theorem dX11_see_93 : decode cX11_see 93 = .ok (.ireturn, 1) := by decide +kernel
theorem dX11_asks_0 : decode cX11_asks 0 = .ok (.iload_n 1, 1) := by decide +kernel
theorem dX11_asks_1 : decode cX11_asks 1 = .ok (.invokestatic 309, 3) := by decide +kernel
theorem dX11_asks_4 : decode cX11_asks 4 = .ok (.ifCond .eq 15, 3) := by decide +kernel
theorem dX11_asks_7 : decode cX11_asks 7 = .ok (.iload_n 3, 1) := by decide +kernel
theorem dX11_asks_8 : decode cX11_asks 8 = .ok (.i2l, 1) := by decide +kernel
theorem dX11_asks_9 : decode cX11_asks 9 = .ok (.lconst 1, 1) := by decide +kernel
theorem dX11_asks_10 : decode cX11_asks 10 = .ok (.ldc2_w 312, 3) := by decide +kernel
theorem dX11_asks_13 : decode cX11_asks 13 = .ok (.invokestatic 113, 3) := by decide +kernel
theorem dX11_asks_16 : decode cX11_asks 16 = .ok (.ifCond .ne 5, 3) := by decide +kernel
theorem dX11_asks_19 : decode cX11_asks 19 = .ok (.iconst (-1), 1) := by decide +kernel
theorem dX11_asks_20 : decode cX11_asks 20 = .ok (.ireturn, 1) := by decide +kernel
theorem dX11_asks_21 : decode cX11_asks 21 = .ok (.aload_n 0, 1) := by decide +kernel
theorem dX11_asks_22 : decode cX11_asks 22 = .ok (.getfield 88, 3) := by decide +kernel
theorem dX11_asks_25 : decode cX11_asks 25 = .ok (.iload_n 1, 1) := by decide +kernel
theorem dX11_asks_26 : decode cX11_asks 26 = .ok (.iaload, 1) := by decide +kernel
theorem dX11_asks_27 : decode cX11_asks 27 = .ok (.ifCond .lt 17, 3) := by decide +kernel
theorem dX11_asks_30 : decode cX11_asks 30 = .ok (.aload_n 0, 1) := by decide +kernel
theorem dX11_asks_31 : decode cX11_asks 31 = .ok (.getfield 88, 3) := by decide +kernel
theorem dX11_asks_34 : decode cX11_asks 34 = .ok (.iload_n 1, 1) := by decide +kernel
theorem dX11_asks_35 : decode cX11_asks 35 = .ok (.iaload, 1) := by decide +kernel
theorem dX11_asks_36 : decode cX11_asks 36 = .ok (.bipush 52, 2) := by decide +kernel
theorem dX11_asks_38 : decode cX11_asks 38 = .ok (.if_icmp .eq 6, 3) := by decide +kernel
theorem dX11_asks_41 : decode cX11_asks 41 = .ok (.bipush (-12), 2) := by decide +kernel
theorem dX11_asks_43 : decode cX11_asks 43 = .ok (.ireturn, 1) := by decide +kernel
theorem dX11_asks_44 : decode cX11_asks 44 = .ok (.iconst 0, 1) := by decide +kernel
theorem dX11_asks_45 : decode cX11_asks 45 = .ok (.istore 4, 2) := by decide +kernel
theorem dX11_asks_47 : decode cX11_asks 47 = .ok (.aload_n 0, 1) := by decide +kernel
theorem dX11_asks_48 : decode cX11_asks 48 = .ok (.getfield 88, 3) := by decide +kernel
theorem dX11_asks_51 : decode cX11_asks 51 = .ok (.iload_n 1, 1) := by decide +kernel
theorem dX11_asks_52 : decode cX11_asks 52 = .ok (.iaload, 1) := by decide +kernel
theorem dX11_asks_53 : decode cX11_asks 53 = .ok (.bipush 52, 2) := by decide +kernel
theorem dX11_asks_55 : decode cX11_asks 55 = .ok (.if_icmp .ne 11, 3) := by decide +kernel
theorem dX11_asks_58 : decode cX11_asks 58 = .ok (.iload_n 2, 1) := by decide +kernel
theorem dX11_asks_59 : decode cX11_asks 59 = .ok (.ifCond .lt 7, 3) := by decide +kernel
theorem dX11_asks_62 : decode cX11_asks 62 = .ok (.iconst 1, 1) := by decide +kernel
theorem dX11_asks_63 : decode cX11_asks 63 = .ok (.goto 4, 3) := by decide +kernel
theorem dX11_asks_66 : decode cX11_asks 66 = .ok (.iconst 0, 1) := by decide +kernel
theorem dX11_asks_67 : decode cX11_asks 67 = .ok (.istore 5, 2) := by decide +kernel
theorem dX11_asks_69 : decode cX11_asks 69 = .ok (.iload 5, 2) := by decide +kernel
theorem dX11_asks_71 : decode cX11_asks 71 = .ok (.ifCond .eq 162, 3) := by decide +kernel
theorem dX11_asks_74 : decode cX11_asks 74 = .ok (.iload 4, 2) := by decide +kernel
theorem dX11_asks_76 : decode cX11_asks 76 = .ok (.iload_n 3, 1) := by decide +kernel
theorem dX11_asks_77 : decode cX11_asks 77 = .ok (.if_icmp .ge 156, 3) := by decide +kernel
theorem dX11_asks_80 : decode cX11_asks 80 = .ok (.iload_n 2, 1) := by decide +kernel
theorem dX11_asks_81 : decode cX11_asks 81 = .ok (.aload_n 0, 1) := by decide +kernel
theorem dX11_asks_82 : decode cX11_asks 82 = .ok (.getfield 91, 3) := by decide +kernel
theorem dX11_asks_85 : decode cX11_asks 85 = .ok (.iload_n 1, 1) := by decide +kernel
theorem dX11_asks_86 : decode cX11_asks 86 = .ok (.iaload, 1) := by decide +kernel
theorem dX11_asks_87 : decode cX11_asks 87 = .ok (.iconst 4, 1) := by decide +kernel
theorem dX11_asks_88 : decode cX11_asks 88 = .ok (.isub, 1) := by decide +kernel
theorem dX11_asks_89 : decode cX11_asks 89 = .ok (.iconst 4, 1) := by decide +kernel
theorem dX11_asks_90 : decode cX11_asks 90 = .ok (.iload 4, 2) := by decide +kernel
theorem dX11_asks_92 : decode cX11_asks 92 = .ok (.imul, 1) := by decide +kernel
theorem dX11_asks_93 : decode cX11_asks 93 = .ok (.isub, 1) := by decide +kernel
theorem dX11_asks_94 : decode cX11_asks 94 = .ok (.if_icmp .gt 7, 3) := by decide +kernel
theorem dX11_asks_97 : decode cX11_asks 97 = .ok (.iconst 1, 1) := by decide +kernel
theorem dX11_asks_98 : decode cX11_asks 98 = .ok (.goto 4, 3) := by decide +kernel
theorem dX11_asks_101 : decode cX11_asks 101 = .ok (.iconst 0, 1) := by decide +kernel
theorem dX11_asks_102 : decode cX11_asks 102 = .ok (.istore 5, 2) := by decide +kernel
theorem dX11_asks_104 : decode cX11_asks 104 = .ok (.bipush 60, 2) := by decide +kernel
theorem dX11_asks_106 : decode cX11_asks 106 = .ok (.iload_n 1, 1) := by decide +kernel
theorem dX11_asks_107 : decode cX11_asks 107 = .ok (.imul, 1) := by decide +kernel
theorem dX11_asks_108 : decode cX11_asks 108 = .ok (.iload_n 2, 1) := by decide +kernel
theorem dX11_asks_109 : decode cX11_asks 109 = .ok (.iadd, 1) := by decide +kernel
theorem dX11_asks_110 : decode cX11_asks 110 = .ok (.iconst 4, 1) := by decide +kernel
theorem dX11_asks_111 : decode cX11_asks 111 = .ok (.iload 4, 2) := by decide +kernel
theorem dX11_asks_113 : decode cX11_asks 113 = .ok (.imul, 1) := by decide +kernel
theorem dX11_asks_114 : decode cX11_asks 114 = .ok (.iadd, 1) := by decide +kernel
theorem dX11_asks_115 : decode cX11_asks 115 = .ok (.istore 6, 2) := by decide +kernel
theorem dX11_asks_117 : decode cX11_asks 117 = .ok (.iload 5, 2) := by decide +kernel
theorem dX11_asks_119 : decode cX11_asks 119 = .ok (.ifCond .eq 93, 3) := by decide +kernel
theorem dX11_asks_122 : decode cX11_asks 122 = .ok (.aload_n 0, 1) := by decide +kernel
theorem dX11_asks_123 : decode cX11_asks 123 = .ok (.getfield 94, 3) := by decide +kernel
theorem dX11_asks_126 : decode cX11_asks 126 = .ok (.iload 6, 2) := by decide +kernel
theorem dX11_asks_128 : decode cX11_asks 128 = .ok (.laload, 1) := by decide +kernel
theorem dX11_asks_129 : decode cX11_asks 129 = .ok (.lconst 1, 1) := by decide +kernel
theorem dX11_asks_130 : decode cX11_asks 130 = .ok (.ldc2_w 197, 3) := by decide +kernel
theorem dX11_asks_133 : decode cX11_asks 133 = .ok (.invokestatic 113, 3) := by decide +kernel
theorem dX11_asks_136 : decode cX11_asks 136 = .ok (.ifCond .eq 76, 3) := by decide +kernel
theorem dX11_asks_139 : decode cX11_asks 139 = .ok (.aload_n 0, 1) := by decide +kernel
theorem dX11_asks_140 : decode cX11_asks 140 = .ok (.getfield 94, 3) := by decide +kernel
theorem dX11_asks_143 : decode cX11_asks 143 = .ok (.iload 6, 2) := by decide +kernel
theorem dX11_asks_145 : decode cX11_asks 145 = .ok (.iconst 1, 1) := by decide +kernel
theorem dX11_asks_146 : decode cX11_asks 146 = .ok (.iadd, 1) := by decide +kernel
theorem dX11_asks_147 : decode cX11_asks 147 = .ok (.laload, 1) := by decide +kernel
theorem dX11_asks_148 : decode cX11_asks 148 = .ok (.lconst 1, 1) := by decide +kernel
theorem dX11_asks_149 : decode cX11_asks 149 = .ok (.ldc2_w 197, 3) := by decide +kernel
theorem dX11_asks_152 : decode cX11_asks 152 = .ok (.invokestatic 113, 3) := by decide +kernel
theorem dX11_asks_155 : decode cX11_asks 155 = .ok (.ifCond .eq 57, 3) := by decide +kernel
theorem dX11_asks_158 : decode cX11_asks 158 = .ok (.aload_n 0, 1) := by decide +kernel
theorem dX11_asks_159 : decode cX11_asks 159 = .ok (.sipush 10000, 3) := by decide +kernel
theorem dX11_asks_162 : decode cX11_asks 162 = .ok (.aload_n 0, 1) := by decide +kernel
theorem dX11_asks_163 : decode cX11_asks 163 = .ok (.getfield 94, 3) := by decide +kernel
theorem dX11_asks_166 : decode cX11_asks 166 = .ok (.iload 6, 2) := by decide +kernel
theorem dX11_asks_168 : decode cX11_asks 168 = .ok (.laload, 1) := by decide +kernel
theorem dX11_asks_169 : decode cX11_asks 169 = .ok (.l2i, 1) := by decide +kernel
theorem dX11_asks_170 : decode cX11_asks 170 = .ok (.imul, 1) := by decide +kernel
theorem dX11_asks_171 : decode cX11_asks 171 = .ok (.aload_n 0, 1) := by decide +kernel
theorem dX11_asks_172 : decode cX11_asks 172 = .ok (.getfield 94, 3) := by decide +kernel
theorem dX11_asks_175 : decode cX11_asks 175 = .ok (.iload 6, 2) := by decide +kernel
theorem dX11_asks_177 : decode cX11_asks 177 = .ok (.iconst 1, 1) := by decide +kernel
theorem dX11_asks_178 : decode cX11_asks 178 = .ok (.iadd, 1) := by decide +kernel
theorem dX11_asks_179 : decode cX11_asks 179 = .ok (.laload, 1) := by decide +kernel
theorem dX11_asks_180 : decode cX11_asks 180 = .ok (.l2i, 1) := by decide +kernel
theorem dX11_asks_181 : decode cX11_asks 181 = .ok (.iadd, 1) := by decide +kernel
theorem dX11_asks_182 : decode cX11_asks 182 = .ok (.aload_n 0, 1) := by decide +kernel
theorem dX11_asks_183 : decode cX11_asks 183 = .ok (.getfield 94, 3) := by decide +kernel
theorem dX11_asks_186 : decode cX11_asks 186 = .ok (.iload 6, 2) := by decide +kernel
theorem dX11_asks_188 : decode cX11_asks 188 = .ok (.iconst 2, 1) := by decide +kernel
theorem dX11_asks_189 : decode cX11_asks 189 = .ok (.iadd, 1) := by decide +kernel
theorem dX11_asks_190 : decode cX11_asks 190 = .ok (.laload, 1) := by decide +kernel
theorem dX11_asks_191 : decode cX11_asks 191 = .ok (.l2i, 1) := by decide +kernel
theorem dX11_asks_192 : decode cX11_asks 192 = .ok (.aload_n 0, 1) := by decide +kernel
theorem dX11_asks_193 : decode cX11_asks 193 = .ok (.getfield 94, 3) := by decide +kernel
theorem dX11_asks_196 : decode cX11_asks 196 = .ok (.iload 6, 2) := by decide +kernel
theorem dX11_asks_198 : decode cX11_asks 198 = .ok (.iconst 3, 1) := by decide +kernel
theorem dX11_asks_199 : decode cX11_asks 199 = .ok (.iadd, 1) := by decide +kernel
theorem dX11_asks_200 : decode cX11_asks 200 = .ok (.laload, 1) := by decide +kernel
theorem dX11_asks_201 : decode cX11_asks 201 = .ok (.l2i, 1) := by decide +kernel
theorem dX11_asks_202 : decode cX11_asks 202 = .ok (.invokevirtual 314, 3) := by decide +kernel
theorem dX11_asks_205 : decode cX11_asks 205 = .ok (.ifCond .lt 7, 3) := by decide +kernel
theorem dX11_asks_208 : decode cX11_asks 208 = .ok (.iconst 1, 1) := by decide +kernel
theorem dX11_asks_209 : decode cX11_asks 209 = .ok (.goto 4, 3) := by decide +kernel
theorem dX11_asks_212 : decode cX11_asks 212 = .ok (.iconst 0, 1) := by decide +kernel
theorem dX11_asks_213 : decode cX11_asks 213 = .ok (.istore 5, 2) := by decide +kernel
theorem dX11_asks_215 : decode cX11_asks 215 = .ok (.iload 4, 2) := by decide +kernel
theorem dX11_asks_217 : decode cX11_asks 217 = .ok (.iload 5, 2) := by decide +kernel
theorem dX11_asks_219 : decode cX11_asks 219 = .ok (.ifCond .eq 7, 3) := by decide +kernel
theorem dX11_asks_222 : decode cX11_asks 222 = .ok (.iconst 1, 1) := by decide +kernel
theorem dX11_asks_223 : decode cX11_asks 223 = .ok (.goto 4, 3) := by decide +kernel
theorem dX11_asks_226 : decode cX11_asks 226 = .ok (.iconst 0, 1) := by decide +kernel
theorem dX11_asks_227 : decode cX11_asks 227 = .ok (.iadd, 1) := by decide +kernel
theorem dX11_asks_228 : decode cX11_asks 228 = .ok (.istore 4, 2) := by decide +kernel
theorem dX11_asks_230 : decode cX11_asks 230 = .ok (.goto (-161), 3) := by decide +kernel
theorem dX11_asks_233 : decode cX11_asks 233 = .ok (.iload 4, 2) := by decide +kernel
theorem dX11_asks_235 : decode cX11_asks 235 = .ok (.ireturn, 1) := by decide +kernel
theorem dX11_offBy_0 : decode cX11_offBy 0 = .ok (.aload_n 0, 1) := by decide +kernel
theorem dX11_offBy_1 : decode cX11_offBy 1 = .ok (.getfield 70, 3) := by decide +kernel
theorem dX11_offBy_4 : decode cX11_offBy 4 = .ok (.iload_n 1, 1) := by decide +kernel
theorem dX11_offBy_5 : decode cX11_offBy 5 = .ok (.iaload, 1) := by decide +kernel
theorem dX11_offBy_6 : decode cX11_offBy 6 = .ok (.aload_n 0, 1) := by decide +kernel
theorem dX11_offBy_7 : decode cX11_offBy 7 = .ok (.getfield 64, 3) := by decide +kernel
theorem dX11_offBy_10 : decode cX11_offBy 10 = .ok (.iload_n 1, 1) := by decide +kernel
theorem dX11_offBy_11 : decode cX11_offBy 11 = .ok (.iaload, 1) := by decide +kernel
theorem dX11_offBy_12 : decode cX11_offBy 12 = .ok (.sipush 10000, 3) := by decide +kernel
theorem dX11_offBy_15 : decode cX11_offBy 15 = .ok (.idiv, 1) := by decide +kernel
theorem dX11_offBy_16 : decode cX11_offBy 16 = .ok (.aload_n 0, 1) := by decide +kernel
theorem dX11_offBy_17 : decode cX11_offBy 17 = .ok (.getfield 64, 3) := by decide +kernel
theorem dX11_offBy_20 : decode cX11_offBy 20 = .ok (.iload_n 1, 1) := by decide +kernel
theorem dX11_offBy_21 : decode cX11_offBy 21 = .ok (.iaload, 1) := by decide +kernel
theorem dX11_offBy_22 : decode cX11_offBy 22 = .ok (.sipush 10000, 3) := by decide +kernel
theorem dX11_offBy_25 : decode cX11_offBy 25 = .ok (.irem, 1) := by decide +kernel
theorem dX11_offBy_26 : decode cX11_offBy 26 = .ok (.imul, 1) := by decide +kernel
theorem dX11_offBy_27 : decode cX11_offBy 27 = .ok (.isub, 1) := by decide +kernel
theorem dX11_offBy_28 : decode cX11_offBy 28 = .ok (.ireturn, 1) := by decide +kernel
theorem dX11_seen_0 : decode cX11_seen 0 = .ok (.iload_n 1, 1) := by decide +kernel
theorem dX11_seen_1 : decode cX11_seen 1 = .ok (.i2l, 1) := by decide +kernel
theorem dX11_seen_2 : decode cX11_seen 2 = .ok (.lconst 0, 1) := by decide +kernel
theorem dX11_seen_3 : decode cX11_seen 3 = .ok (.aload_n 0, 1) := by decide +kernel
theorem dX11_seen_4 : decode cX11_seen 4 = .ok (.getfield 306, 3) := by decide +kernel
theorem dX11_seen_7 : decode cX11_seen 7 = .ok (.iconst 1, 1) := by decide +kernel
theorem dX11_seen_8 : decode cX11_seen 8 = .ok (.isub, 1) := by decide +kernel
theorem dX11_seen_9 : decode cX11_seen 9 = .ok (.i2l, 1) := by decide +kernel
theorem dX11_seen_10 : decode cX11_seen 10 = .ok (.invokestatic 113, 3) := by decide +kernel
theorem dX11_seen_13 : decode cX11_seen 13 = .ok (.ifCond .ne 7, 3) := by decide +kernel
theorem dX11_seen_16 : decode cX11_seen 16 = .ok (.ldc_w 291, 3) := by decide +kernel
theorem dX11_seen_19 : decode cX11_seen 19 = .ok (.ireturn, 1) := by decide +kernel
theorem dX11_seen_20 : decode cX11_seen 20 = .ok (.iload_n 2, 1) := by decide +kernel
theorem dX11_seen_21 : decode cX11_seen 21 = .ok (.tableswitch 66 0 3 #[31, 42, 53, 60], 31) := by decide +kernel
theorem dX11_seen_52 : decode cX11_seen 52 = .ok (.aload_n 0, 1) := by decide +kernel
theorem dX11_seen_53 : decode cX11_seen 53 = .ok (.getfield 64, 3) := by decide +kernel
theorem dX11_seen_56 : decode cX11_seen 56 = .ok (.iload_n 1, 1) := by decide +kernel
theorem dX11_seen_57 : decode cX11_seen 57 = .ok (.iaload, 1) := by decide +kernel
theorem dX11_seen_58 : decode cX11_seen 58 = .ok (.sipush 10000, 3) := by decide +kernel
theorem dX11_seen_61 : decode cX11_seen 61 = .ok (.idiv, 1) := by decide +kernel
theorem dX11_seen_62 : decode cX11_seen 62 = .ok (.ireturn, 1) := by decide +kernel
theorem dX11_seen_63 : decode cX11_seen 63 = .ok (.aload_n 0, 1) := by decide +kernel
theorem dX11_seen_64 : decode cX11_seen 64 = .ok (.getfield 64, 3) := by decide +kernel
theorem dX11_seen_67 : decode cX11_seen 67 = .ok (.iload_n 1, 1) := by decide +kernel
theorem dX11_seen_68 : decode cX11_seen 68 = .ok (.iaload, 1) := by decide +kernel
theorem dX11_seen_69 : decode cX11_seen 69 = .ok (.sipush 10000, 3) := by decide +kernel
theorem dX11_seen_72 : decode cX11_seen 72 = .ok (.irem, 1) := by decide +kernel
theorem dX11_seen_73 : decode cX11_seen 73 = .ok (.ireturn, 1) := by decide +kernel
theorem dX11_seen_74 : decode cX11_seen 74 = .ok (.aload_n 0, 1) := by decide +kernel
theorem dX11_seen_75 : decode cX11_seen 75 = .ok (.getfield 67, 3) := by decide +kernel
theorem dX11_seen_78 : decode cX11_seen 78 = .ok (.iload_n 1, 1) := by decide +kernel
theorem dX11_seen_79 : decode cX11_seen 79 = .ok (.iaload, 1) := by decide +kernel
theorem dX11_seen_80 : decode cX11_seen 80 = .ok (.ireturn, 1) := by decide +kernel
theorem dX11_seen_81 : decode cX11_seen 81 = .ok (.aload_n 0, 1) := by decide +kernel
theorem dX11_seen_82 : decode cX11_seen 82 = .ok (.iload_n 1, 1) := by decide +kernel
theorem dX11_seen_83 : decode cX11_seen 83 = .ok (.invokevirtual 317, 3) := by decide +kernel
theorem dX11_seen_86 : decode cX11_seen 86 = .ok (.ireturn, 1) := by decide +kernel
theorem dX11_seen_87 : decode cX11_seen 87 = .ok (.ldc_w 291, 3) := by decide +kernel
theorem dX11_seen_90 : decode cX11_seen 90 = .ok (.ireturn, 1) := by decide +kernel
theorem dX11_canSlip_0 : decode cX11_canSlip 0 = .ok (.aload_n 0, 1) := by decide +kernel
theorem dX11_canSlip_1 : decode cX11_canSlip 1 = .ok (.getfield 43, 3) := by decide +kernel
theorem dX11_canSlip_4 : decode cX11_canSlip 4 = .ok (.iload_n 1, 1) := by decide +kernel
theorem dX11_canSlip_5 : decode cX11_canSlip 5 = .ok (.iaload, 1) := by decide +kernel
theorem dX11_canSlip_6 : decode cX11_canSlip 6 = .ok (.ifCond .ne 30, 3) := by decide +kernel
theorem dX11_canSlip_9 : decode cX11_canSlip 9 = .ok (.iload_n 2, 1) := by decide +kernel
theorem dX11_canSlip_10 : decode cX11_canSlip 10 = .ok (.aload_n 0, 1) := by decide +kernel
theorem dX11_canSlip_11 : decode cX11_canSlip 11 = .ok (.getfield 55, 3) := by decide +kernel
theorem dX11_canSlip_14 : decode cX11_canSlip 14 = .ok (.iload_n 1, 1) := by decide +kernel
theorem dX11_canSlip_15 : decode cX11_canSlip 15 = .ok (.iaload, 1) := by decide +kernel
theorem dX11_canSlip_16 : decode cX11_canSlip 16 = .ok (.if_icmp .eq 14, 3) := by decide +kernel
theorem dX11_canSlip_19 : decode cX11_canSlip 19 = .ok (.iload_n 2, 1) := by decide +kernel
theorem dX11_canSlip_20 : decode cX11_canSlip 20 = .ok (.aload_n 0, 1) := by decide +kernel
theorem dX11_canSlip_21 : decode cX11_canSlip 21 = .ok (.getfield 55, 3) := by decide +kernel
theorem dX11_canSlip_24 : decode cX11_canSlip 24 = .ok (.iload_n 1, 1) := by decide +kernel
theorem dX11_canSlip_25 : decode cX11_canSlip 25 = .ok (.iaload, 1) := by decide +kernel
theorem dX11_canSlip_26 : decode cX11_canSlip 26 = .ok (.ineg, 1) := by decide +kernel
theorem dX11_canSlip_27 : decode cX11_canSlip 27 = .ok (.if_icmp .ne 7, 3) := by decide +kernel
theorem dX11_canSlip_30 : decode cX11_canSlip 30 = .ok (.iconst 1, 1) := by decide +kernel
theorem dX11_canSlip_31 : decode cX11_canSlip 31 = .ok (.goto 4, 3) := by decide +kernel
theorem dX11_canSlip_34 : decode cX11_canSlip 34 = .ok (.iconst 0, 1) := by decide +kernel
theorem dX11_canSlip_35 : decode cX11_canSlip 35 = .ok (.ireturn, 1) := by decide +kernel
theorem dX11_canSlip_36 : decode cX11_canSlip 36 = .ok (.iconst 0, 1) := by decide +kernel
theorem dX11_canSlip_37 : decode cX11_canSlip 37 = .ok (.istore_n 3, 1) := by decide +kernel
theorem dX11_canSlip_38 : decode cX11_canSlip 38 = .ok (.iload_n 3, 1) := by decide +kernel
theorem dX11_canSlip_39 : decode cX11_canSlip 39 = .ok (.aload_n 0, 1) := by decide +kernel
theorem dX11_canSlip_40 : decode cX11_canSlip 40 = .ok (.getfield 46, 3) := by decide +kernel
theorem dX11_canSlip_43 : decode cX11_canSlip 43 = .ok (.iload_n 1, 1) := by decide +kernel
theorem dX11_canSlip_44 : decode cX11_canSlip 44 = .ok (.iaload, 1) := by decide +kernel
theorem dX11_canSlip_45 : decode cX11_canSlip 45 = .ok (.invokestatic 220, 3) := by decide +kernel
theorem dX11_canSlip_48 : decode cX11_canSlip 48 = .ok (.if_icmp .ge 40, 3) := by decide +kernel
theorem dX11_canSlip_51 : decode cX11_canSlip 51 = .ok (.aload_n 0, 1) := by decide +kernel
theorem dX11_canSlip_52 : decode cX11_canSlip 52 = .ok (.getfield 43, 3) := by decide +kernel
theorem dX11_canSlip_55 : decode cX11_canSlip 55 = .ok (.iload_n 1, 1) := by decide +kernel
theorem dX11_canSlip_56 : decode cX11_canSlip 56 = .ok (.iaload, 1) := by decide +kernel
theorem dX11_canSlip_57 : decode cX11_canSlip 57 = .ok (.iconst 1, 1) := by decide +kernel
theorem dX11_canSlip_58 : decode cX11_canSlip 58 = .ok (.if_icmp .ne 30, 3) := by decide +kernel
theorem dX11_canSlip_61 : decode cX11_canSlip 61 = .ok (.iload_n 2, 1) := by decide +kernel
theorem dX11_canSlip_62 : decode cX11_canSlip 62 = .ok (.iload_n 3, 1) := by decide +kernel
theorem dX11_canSlip_63 : decode cX11_canSlip 63 = .ok (.invokestatic 233, 3) := by decide +kernel
theorem dX11_canSlip_66 : decode cX11_canSlip 66 = .ok (.ineg, 1) := by decide +kernel
theorem dX11_canSlip_67 : decode cX11_canSlip 67 = .ok (.aload_n 0, 1) := by decide +kernel
theorem dX11_canSlip_68 : decode cX11_canSlip 68 = .ok (.getfield 58, 3) := by decide +kernel
theorem dX11_canSlip_71 : decode cX11_canSlip 71 = .ok (.iload_n 1, 1) := by decide +kernel
theorem dX11_canSlip_72 : decode cX11_canSlip 72 = .ok (.iaload, 1) := by decide +kernel
theorem dX11_canSlip_73 : decode cX11_canSlip 73 = .ok (.invokestatic 233, 3) := by decide +kernel
theorem dX11_canSlip_76 : decode cX11_canSlip 76 = .ok (.imul, 1) := by decide +kernel
theorem dX11_canSlip_77 : decode cX11_canSlip 77 = .ok (.if_icmp .ne 5, 3) := by decide +kernel
theorem dX11_canSlip_80 : decode cX11_canSlip 80 = .ok (.iconst 1, 1) := by decide +kernel
theorem dX11_canSlip_81 : decode cX11_canSlip 81 = .ok (.ireturn, 1) := by decide +kernel
theorem dX11_canSlip_82 : decode cX11_canSlip 82 = .ok (.iinc 3 1, 3) := by decide +kernel
theorem dX11_canSlip_85 : decode cX11_canSlip 85 = .ok (.goto (-47), 3) := by decide +kernel
theorem dX11_canSlip_88 : decode cX11_canSlip 88 = .ok (.iconst 0, 1) := by decide +kernel
theorem dX11_canSlip_89 : decode cX11_canSlip 89 = .ok (.ireturn, 1) := by decide +kernel
theorem dX11_slipsOf_0 : decode cX11_slipsOf 0 = .ok (.iconst 0, 1) := by decide +kernel
theorem dX11_slipsOf_1 : decode cX11_slipsOf 1 = .ok (.istore_n 2, 1) := by decide +kernel
theorem dX11_slipsOf_2 : decode cX11_slipsOf 2 = .ok (.iconst 0, 1) := by decide +kernel
theorem dX11_slipsOf_3 : decode cX11_slipsOf 3 = .ok (.istore_n 3, 1) := by decide +kernel
theorem dX11_slipsOf_4 : decode cX11_slipsOf 4 = .ok (.iload_n 3, 1) := by decide +kernel
theorem dX11_slipsOf_5 : decode cX11_slipsOf 5 = .ok (.aload_n 0, 1) := by decide +kernel
theorem dX11_slipsOf_6 : decode cX11_slipsOf 6 = .ok (.getfield 214, 3) := by decide +kernel
theorem dX11_slipsOf_9 : decode cX11_slipsOf 9 = .ok (.if_icmp .ge 26, 3) := by decide +kernel
theorem dX11_slipsOf_12 : decode cX11_slipsOf 12 = .ok (.iload_n 2, 1) := by decide +kernel
theorem dX11_slipsOf_13 : decode cX11_slipsOf 13 = .ok (.aload_n 0, 1) := by decide +kernel
theorem dX11_slipsOf_14 : decode cX11_slipsOf 14 = .ok (.iload_n 3, 1) := by decide +kernel
theorem dX11_slipsOf_15 : decode cX11_slipsOf 15 = .ok (.iload_n 1, 1) := by decide +kernel
theorem dX11_slipsOf_16 : decode cX11_slipsOf 16 = .ok (.invokevirtual 320, 3) := by decide +kernel
theorem dX11_slipsOf_19 : decode cX11_slipsOf 19 = .ok (.ifCond .eq 7, 3) := by decide +kernel
theorem dX11_slipsOf_22 : decode cX11_slipsOf 22 = .ok (.iconst 1, 1) := by decide +kernel
theorem dX11_slipsOf_23 : decode cX11_slipsOf 23 = .ok (.goto 4, 3) := by decide +kernel
theorem dX11_slipsOf_26 : decode cX11_slipsOf 26 = .ok (.iconst 0, 1) := by decide +kernel
theorem dX11_slipsOf_27 : decode cX11_slipsOf 27 = .ok (.iadd, 1) := by decide +kernel
theorem dX11_slipsOf_28 : decode cX11_slipsOf 28 = .ok (.istore_n 2, 1) := by decide +kernel
theorem dX11_slipsOf_29 : decode cX11_slipsOf 29 = .ok (.iinc 3 1, 3) := by decide +kernel
theorem dX11_slipsOf_32 : decode cX11_slipsOf 32 = .ok (.goto (-28), 3) := by decide +kernel
theorem dX11_slipsOf_35 : decode cX11_slipsOf 35 = .ok (.iload_n 2, 1) := by decide +kernel
theorem dX11_slipsOf_36 : decode cX11_slipsOf 36 = .ok (.ireturn, 1) := by decide +kernel
theorem dX11_doesFit_0 : decode cX11_doesFit 0 = .ok (.iconst 0, 1) := by decide +kernel
theorem dX11_doesFit_1 : decode cX11_doesFit 1 = .ok (.istore 4, 2) := by decide +kernel
theorem dX11_doesFit_3 : decode cX11_doesFit 3 = .ok (.iload 4, 2) := by decide +kernel
theorem dX11_doesFit_5 : decode cX11_doesFit 5 = .ok (.aload_n 0, 1) := by decide +kernel
theorem dX11_doesFit_6 : decode cX11_doesFit 6 = .ok (.getfield 306, 3) := by decide +kernel
theorem dX11_doesFit_9 : decode cX11_doesFit 9 = .ok (.if_icmp .ge 71, 3) := by decide +kernel
theorem dX11_doesFit_12 : decode cX11_doesFit 12 = .ok (.aload_n 0, 1) := by decide +kernel
theorem dX11_doesFit_13 : decode cX11_doesFit 13 = .ok (.iload_n 1, 1) := by decide +kernel
theorem dX11_doesFit_14 : decode cX11_doesFit 14 = .ok (.iload_n 2, 1) := by decide +kernel
theorem dX11_doesFit_15 : decode cX11_doesFit 15 = .ok (.aload_n 0, 1) := by decide +kernel
theorem dX11_doesFit_16 : decode cX11_doesFit 16 = .ok (.getfield 64, 3) := by decide +kernel
theorem dX11_doesFit_19 : decode cX11_doesFit 19 = .ok (.iload 4, 2) := by decide +kernel
theorem dX11_doesFit_21 : decode cX11_doesFit 21 = .ok (.iaload, 1) := by decide +kernel
theorem dX11_doesFit_22 : decode cX11_doesFit 22 = .ok (.iconst 0, 1) := by decide +kernel
theorem dX11_doesFit_23 : decode cX11_doesFit 23 = .ok (.invokevirtual 279, 3) := by decide +kernel
theorem dX11_doesFit_26 : decode cX11_doesFit 26 = .ok (.ifCond .eq 22, 3) := by decide +kernel
theorem dX11_doesFit_29 : decode cX11_doesFit 29 = .ok (.aload_n 0, 1) := by decide +kernel
theorem dX11_doesFit_30 : decode cX11_doesFit 30 = .ok (.invokevirtual 283, 3) := by decide +kernel
theorem dX11_doesFit_33 : decode cX11_doesFit 33 = .ok (.aload_n 0, 1) := by decide +kernel
theorem dX11_doesFit_34 : decode cX11_doesFit 34 = .ok (.getfield 67, 3) := by decide +kernel
theorem dX11_doesFit_37 : decode cX11_doesFit 37 = .ok (.iload 4, 2) := by decide +kernel
theorem dX11_doesFit_39 : decode cX11_doesFit 39 = .ok (.iaload, 1) := by decide +kernel
theorem dX11_doesFit_40 : decode cX11_doesFit 40 = .ok (.isub, 1) := by decide +kernel
theorem dX11_doesFit_41 : decode cX11_doesFit 41 = .ok (.invokestatic 250, 3) := by decide +kernel
theorem dX11_doesFit_44 : decode cX11_doesFit 44 = .ok (.iload_n 3, 1) := by decide +kernel
theorem dX11_doesFit_45 : decode cX11_doesFit 45 = .ok (.if_icmp .le 5, 3) := by decide +kernel
theorem dX11_doesFit_48 : decode cX11_doesFit 48 = .ok (.iconst 0, 1) := by decide +kernel
theorem dX11_doesFit_49 : decode cX11_doesFit 49 = .ok (.ireturn, 1) := by decide +kernel
theorem dX11_doesFit_50 : decode cX11_doesFit 50 = .ok (.aload_n 0, 1) := by decide +kernel
theorem dX11_doesFit_51 : decode cX11_doesFit 51 = .ok (.iload 4, 2) := by decide +kernel
theorem dX11_doesFit_53 : decode cX11_doesFit 53 = .ok (.invokevirtual 317, 3) := by decide +kernel
theorem dX11_doesFit_56 : decode cX11_doesFit 56 = .ok (.ifCond .eq 18, 3) := by decide +kernel
theorem dX11_doesFit_59 : decode cX11_doesFit 59 = .ok (.aload_n 0, 1) := by decide +kernel
theorem dX11_doesFit_60 : decode cX11_doesFit 60 = .ok (.aload_n 0, 1) := by decide +kernel
theorem dX11_doesFit_61 : decode cX11_doesFit 61 = .ok (.iload 4, 2) := by decide +kernel
theorem dX11_doesFit_63 : decode cX11_doesFit 63 = .ok (.invokevirtual 317, 3) := by decide +kernel
theorem dX11_doesFit_66 : decode cX11_doesFit 66 = .ok (.invokevirtual 323, 3) := by decide +kernel
theorem dX11_doesFit_69 : decode cX11_doesFit 69 = .ok (.ifCond .ne 5, 3) := by decide +kernel
theorem dX11_doesFit_72 : decode cX11_doesFit 72 = .ok (.iconst 0, 1) := by decide +kernel
theorem dX11_doesFit_73 : decode cX11_doesFit 73 = .ok (.ireturn, 1) := by decide +kernel
theorem dX11_doesFit_74 : decode cX11_doesFit 74 = .ok (.iinc 4 1, 3) := by decide +kernel
theorem dX11_doesFit_77 : decode cX11_doesFit 77 = .ok (.goto (-74), 3) := by decide +kernel
theorem dX11_doesFit_80 : decode cX11_doesFit 80 = .ok (.iconst 1, 1) := by decide +kernel
theorem dX11_doesFit_81 : decode cX11_doesFit 81 = .ok (.ireturn, 1) := by decide +kernel
theorem dX11_fits_0 : decode cX11_fits 0 = .ok (.aload_n 0, 1) := by decide +kernel
theorem dX11_fits_1 : decode cX11_fits 1 = .ok (.iload_n 1, 1) := by decide +kernel
theorem dX11_fits_2 : decode cX11_fits 2 = .ok (.invokevirtual 188, 3) := by decide +kernel
theorem dX11_fits_5 : decode cX11_fits 5 = .ok (.ifCond .eq 15, 3) := by decide +kernel
theorem dX11_fits_8 : decode cX11_fits 8 = .ok (.iload_n 2, 1) := by decide +kernel
theorem dX11_fits_9 : decode cX11_fits 9 = .ok (.i2l, 1) := by decide +kernel
theorem dX11_fits_10 : decode cX11_fits 10 = .ok (.lconst 0, 1) := by decide +kernel
theorem dX11_fits_11 : decode cX11_fits 11 = .ok (.ldc2_w 197, 3) := by decide +kernel
theorem dX11_fits_14 : decode cX11_fits 14 = .ok (.invokestatic 113, 3) := by decide +kernel
theorem dX11_fits_17 : decode cX11_fits 17 = .ok (.ifCond .ne 5, 3) := by decide +kernel
theorem dX11_fits_20 : decode cX11_fits 20 = .ok (.iconst (-1), 1) := by decide +kernel
theorem dX11_fits_21 : decode cX11_fits 21 = .ok (.ireturn, 1) := by decide +kernel
theorem dX11_fits_22 : decode cX11_fits 22 = .ok (.aload_n 0, 1) := by decide +kernel
theorem dX11_fits_23 : decode cX11_fits 23 = .ok (.getfield 306, 3) := by decide +kernel
theorem dX11_fits_26 : decode cX11_fits 26 = .ok (.ifCond .ne 6, 3) := by decide +kernel
theorem dX11_fits_29 : decode cX11_fits 29 = .ok (.bipush (-5), 2) := by decide +kernel
theorem dX11_fits_31 : decode cX11_fits 31 = .ok (.ireturn, 1) := by decide +kernel
theorem dX11_fits_32 : decode cX11_fits 32 = .ok (.iconst 0, 1) := by decide +kernel
theorem dX11_fits_33 : decode cX11_fits 33 = .ok (.istore_n 3, 1) := by decide +kernel
theorem dX11_fits_34 : decode cX11_fits 34 = .ok (.iconst 0, 1) := by decide +kernel
theorem dX11_fits_35 : decode cX11_fits 35 = .ok (.istore 4, 2) := by decide +kernel
theorem dX11_fits_37 : decode cX11_fits 37 = .ok (.iload 4, 2) := by decide +kernel
theorem dX11_fits_39 : decode cX11_fits 39 = .ok (.bipush 7, 2) := by decide +kernel
theorem dX11_fits_41 : decode cX11_fits 41 = .ok (.if_icmp .ge 31, 3) := by decide +kernel
theorem dX11_fits_44 : decode cX11_fits 44 = .ok (.iload_n 3, 1) := by decide +kernel
theorem dX11_fits_45 : decode cX11_fits 45 = .ok (.aload_n 0, 1) := by decide +kernel
theorem dX11_fits_46 : decode cX11_fits 46 = .ok (.iload_n 1, 1) := by decide +kernel
theorem dX11_fits_47 : decode cX11_fits 47 = .ok (.iload 4, 2) := by decide +kernel
theorem dX11_fits_49 : decode cX11_fits 49 = .ok (.iload_n 2, 1) := by decide +kernel
theorem dX11_fits_50 : decode cX11_fits 50 = .ok (.invokevirtual 326, 3) := by decide +kernel
theorem dX11_fits_53 : decode cX11_fits 53 = .ok (.ifCond .eq 10, 3) := by decide +kernel
theorem dX11_fits_56 : decode cX11_fits 56 = .ok (.iconst 1, 1) := by decide +kernel
theorem dX11_fits_57 : decode cX11_fits 57 = .ok (.iload 4, 2) := by decide +kernel
theorem dX11_fits_59 : decode cX11_fits 59 = .ok (.ishl, 1) := by decide +kernel
theorem dX11_fits_60 : decode cX11_fits 60 = .ok (.goto 4, 3) := by decide +kernel
theorem dX11_fits_63 : decode cX11_fits 63 = .ok (.iconst 0, 1) := by decide +kernel
theorem dX11_fits_64 : decode cX11_fits 64 = .ok (.ior, 1) := by decide +kernel
theorem dX11_fits_65 : decode cX11_fits 65 = .ok (.istore_n 3, 1) := by decide +kernel
theorem dX11_fits_66 : decode cX11_fits 66 = .ok (.iinc 4 1, 3) := by decide +kernel
theorem dX11_fits_69 : decode cX11_fits 69 = .ok (.goto (-32), 3) := by decide +kernel
theorem dX11_fits_72 : decode cX11_fits 72 = .ok (.iload_n 3, 1) := by decide +kernel
theorem dX11_fits_73 : decode cX11_fits 73 = .ok (.ireturn, 1) := by decide +kernel
theorem dX11_offSum_0 : decode cX11_offSum 0 = .ok (.iconst 0, 1) := by decide +kernel
theorem dX11_offSum_1 : decode cX11_offSum 1 = .ok (.istore_n 3, 1) := by decide +kernel
theorem dX11_offSum_2 : decode cX11_offSum 2 = .ok (.iconst 0, 1) := by decide +kernel
theorem dX11_offSum_3 : decode cX11_offSum 3 = .ok (.istore 4, 2) := by decide +kernel
theorem dX11_offSum_5 : decode cX11_offSum 5 = .ok (.iload 4, 2) := by decide +kernel
theorem dX11_offSum_7 : decode cX11_offSum 7 = .ok (.aload_n 0, 1) := by decide +kernel
theorem dX11_offSum_8 : decode cX11_offSum 8 = .ok (.getfield 306, 3) := by decide +kernel
theorem dX11_offSum_11 : decode cX11_offSum 11 = .ok (.if_icmp .ge 77, 3) := by decide +kernel
theorem dX11_offSum_14 : decode cX11_offSum 14 = .ok (.iconst 1, 1) := by decide +kernel
theorem dX11_offSum_15 : decode cX11_offSum 15 = .ok (.istore 5, 2) := by decide +kernel
theorem dX11_offSum_17 : decode cX11_offSum 17 = .ok (.iload_n 2, 1) := by decide +kernel
theorem dX11_offSum_18 : decode cX11_offSum 18 = .ok (.bipush 7, 2) := by decide +kernel
theorem dX11_offSum_20 : decode cX11_offSum 20 = .ok (.if_icmp .ne 21, 3) := by decide +kernel
theorem dX11_offSum_23 : decode cX11_offSum 23 = .ok (.aload_n 0, 1) := by decide +kernel
theorem dX11_offSum_24 : decode cX11_offSum 24 = .ok (.iload_n 1, 1) := by decide +kernel
theorem dX11_offSum_25 : decode cX11_offSum 25 = .ok (.aload_n 0, 1) := by decide +kernel
theorem dX11_offSum_26 : decode cX11_offSum 26 = .ok (.getfield 64, 3) := by decide +kernel
theorem dX11_offSum_29 : decode cX11_offSum 29 = .ok (.iload 4, 2) := by decide +kernel
theorem dX11_offSum_31 : decode cX11_offSum 31 = .ok (.iaload, 1) := by decide +kernel
theorem dX11_offSum_32 : decode cX11_offSum 32 = .ok (.iconst 0, 1) := by decide +kernel
theorem dX11_offSum_33 : decode cX11_offSum 33 = .ok (.invokevirtual 297, 3) := by decide +kernel
theorem dX11_offSum_36 : decode cX11_offSum 36 = .ok (.istore 6, 2) := by decide +kernel
theorem dX11_offSum_38 : decode cX11_offSum 38 = .ok (.goto 19, 3) := by decide +kernel
theorem dX11_offSum_41 : decode cX11_offSum 41 = .ok (.aload_n 0, 1) := by decide +kernel
theorem dX11_offSum_42 : decode cX11_offSum 42 = .ok (.iload_n 1, 1) := by decide +kernel
theorem dX11_offSum_43 : decode cX11_offSum 43 = .ok (.iload_n 2, 1) := by decide +kernel
theorem dX11_offSum_44 : decode cX11_offSum 44 = .ok (.aload_n 0, 1) := by decide +kernel
theorem dX11_offSum_45 : decode cX11_offSum 45 = .ok (.getfield 64, 3) := by decide +kernel
theorem dX11_offSum_48 : decode cX11_offSum 48 = .ok (.iload 4, 2) := by decide +kernel
theorem dX11_offSum_50 : decode cX11_offSum 50 = .ok (.iaload, 1) := by decide +kernel
theorem dX11_offSum_51 : decode cX11_offSum 51 = .ok (.iconst 0, 1) := by decide +kernel
theorem dX11_offSum_52 : decode cX11_offSum 52 = .ok (.invokevirtual 279, 3) := by decide +kernel
theorem dX11_offSum_55 : decode cX11_offSum 55 = .ok (.istore 5, 2) := by decide +kernel
theorem dX11_offSum_57 : decode cX11_offSum 57 = .ok (.iload 5, 2) := by decide +kernel
theorem dX11_offSum_59 : decode cX11_offSum 59 = .ok (.ifCond .ne 5, 3) := by decide +kernel
theorem dX11_offSum_62 : decode cX11_offSum 62 = .ok (.iconst (-1), 1) := by decide +kernel
theorem dX11_offSum_63 : decode cX11_offSum 63 = .ok (.ireturn, 1) := by decide +kernel
theorem dX11_offSum_64 : decode cX11_offSum 64 = .ok (.iload_n 3, 1) := by decide +kernel
theorem dX11_offSum_65 : decode cX11_offSum 65 = .ok (.aload_n 0, 1) := by decide +kernel
theorem dX11_offSum_66 : decode cX11_offSum 66 = .ok (.invokevirtual 283, 3) := by decide +kernel
theorem dX11_offSum_69 : decode cX11_offSum 69 = .ok (.aload_n 0, 1) := by decide +kernel
theorem dX11_offSum_70 : decode cX11_offSum 70 = .ok (.getfield 67, 3) := by decide +kernel
theorem dX11_offSum_73 : decode cX11_offSum 73 = .ok (.iload 4, 2) := by decide +kernel
theorem dX11_offSum_75 : decode cX11_offSum 75 = .ok (.iaload, 1) := by decide +kernel
theorem dX11_offSum_76 : decode cX11_offSum 76 = .ok (.isub, 1) := by decide +kernel
theorem dX11_offSum_77 : decode cX11_offSum 77 = .ok (.invokestatic 250, 3) := by decide +kernel
theorem dX11_offSum_80 : decode cX11_offSum 80 = .ok (.iadd, 1) := by decide +kernel
theorem dX11_offSum_81 : decode cX11_offSum 81 = .ok (.istore_n 3, 1) := by decide +kernel
theorem dX11_offSum_82 : decode cX11_offSum 82 = .ok (.iinc 4 1, 3) := by decide +kernel
theorem dX11_offSum_85 : decode cX11_offSum 85 = .ok (.goto (-80), 3) := by decide +kernel
theorem dX11_offSum_88 : decode cX11_offSum 88 = .ok (.iload_n 3, 1) := by decide +kernel
theorem dX11_offSum_89 : decode cX11_offSum 89 = .ok (.ireturn, 1) := by decide +kernel
theorem dX11_best_0 : decode cX11_best 0 = .ok (.aload_n 0, 1) := by decide +kernel
theorem dX11_best_1 : decode cX11_best 1 = .ok (.iload_n 1, 1) := by decide +kernel
theorem dX11_best_2 : decode cX11_best 2 = .ok (.invokevirtual 188, 3) := by decide +kernel
theorem dX11_best_5 : decode cX11_best 5 = .ok (.ifCond .eq 13, 3) := by decide +kernel
theorem dX11_best_8 : decode cX11_best 8 = .ok (.iload_n 2, 1) := by decide +kernel
theorem dX11_best_9 : decode cX11_best 9 = .ok (.i2l, 1) := by decide +kernel
theorem dX11_best_10 : decode cX11_best 10 = .ok (.lconst 0, 1) := by decide +kernel
theorem dX11_best_11 : decode cX11_best 11 = .ok (.lconst 1, 1) := by decide +kernel
theorem dX11_best_12 : decode cX11_best 12 = .ok (.invokestatic 113, 3) := by decide +kernel
theorem dX11_best_15 : decode cX11_best 15 = .ok (.ifCond .ne 5, 3) := by decide +kernel
theorem dX11_best_18 : decode cX11_best 18 = .ok (.iconst (-1), 1) := by decide +kernel
theorem dX11_best_19 : decode cX11_best 19 = .ok (.ireturn, 1) := by decide +kernel
theorem dX11_best_20 : decode cX11_best 20 = .ok (.aload_n 0, 1) := by decide +kernel
theorem dX11_best_21 : decode cX11_best 21 = .ok (.getfield 306, 3) := by decide +kernel
theorem dX11_best_24 : decode cX11_best 24 = .ok (.ifCond .ne 6, 3) := by decide +kernel
theorem dX11_best_27 : decode cX11_best 27 = .ok (.bipush (-5), 2) := by decide +kernel
theorem dX11_best_29 : decode cX11_best 29 = .ok (.ireturn, 1) := by decide +kernel
theorem dX11_best_30 : decode cX11_best 30 = .ok (.iconst (-1), 1) := by decide +kernel
theorem dX11_best_31 : decode cX11_best 31 = .ok (.istore_n 3, 1) := by decide +kernel
theorem dX11_best_32 : decode cX11_best 32 = .ok (.iconst 0, 1) := by decide +kernel
theorem dX11_best_33 : decode cX11_best 33 = .ok (.istore 4, 2) := by decide +kernel
theorem dX11_best_35 : decode cX11_best 35 = .ok (.iconst 0, 1) := by decide +kernel
theorem dX11_best_36 : decode cX11_best 36 = .ok (.istore 5, 2) := by decide +kernel
theorem dX11_best_38 : decode cX11_best 38 = .ok (.iload 5, 2) := by decide +kernel
theorem dX11_best_40 : decode cX11_best 40 = .ok (.bipush 7, 2) := by decide +kernel
theorem dX11_best_42 : decode cX11_best 42 = .ok (.if_icmp .gt 41, 3) := by decide +kernel
theorem dX11_best_45 : decode cX11_best 45 = .ok (.aload_n 0, 1) := by decide +kernel
theorem dX11_best_46 : decode cX11_best 46 = .ok (.iload_n 1, 1) := by decide +kernel
theorem dX11_best_47 : decode cX11_best 47 = .ok (.iload 5, 2) := by decide +kernel
theorem dX11_best_49 : decode cX11_best 49 = .ok (.invokevirtual 330, 3) := by decide +kernel
theorem dX11_best_52 : decode cX11_best 52 = .ok (.istore 6, 2) := by decide +kernel
theorem dX11_best_54 : decode cX11_best 54 = .ok (.iload 6, 2) := by decide +kernel
theorem dX11_best_56 : decode cX11_best 56 = .ok (.ifCond .lt 21, 3) := by decide +kernel
theorem dX11_best_59 : decode cX11_best 59 = .ok (.iload_n 3, 1) := by decide +kernel
theorem dX11_best_60 : decode cX11_best 60 = .ok (.ifCond .lt 10, 3) := by decide +kernel
theorem dX11_best_63 : decode cX11_best 63 = .ok (.iload 6, 2) := by decide +kernel
theorem dX11_best_65 : decode cX11_best 65 = .ok (.iload 4, 2) := by decide +kernel
theorem dX11_best_67 : decode cX11_best 67 = .ok (.if_icmp .ge 10, 3) := by decide +kernel
theorem dX11_best_70 : decode cX11_best 70 = .ok (.iload 5, 2) := by decide +kernel
theorem dX11_best_72 : decode cX11_best 72 = .ok (.istore_n 3, 1) := by decide +kernel
theorem dX11_best_73 : decode cX11_best 73 = .ok (.iload 6, 2) := by decide +kernel
theorem dX11_best_75 : decode cX11_best 75 = .ok (.istore 4, 2) := by decide +kernel
theorem dX11_best_77 : decode cX11_best 77 = .ok (.iinc 5 1, 3) := by decide +kernel
theorem dX11_best_80 : decode cX11_best 80 = .ok (.goto (-42), 3) := by decide +kernel
theorem dX11_best_83 : decode cX11_best 83 = .ok (.iload_n 2, 1) := by decide +kernel
theorem dX11_best_84 : decode cX11_best 84 = .ok (.ifCond .ne 7, 3) := by decide +kernel
theorem dX11_best_87 : decode cX11_best 87 = .ok (.iload_n 3, 1) := by decide +kernel
theorem dX11_best_88 : decode cX11_best 88 = .ok (.goto 5, 3) := by decide +kernel
theorem dX11_best_91 : decode cX11_best 91 = .ok (.iload 4, 2) := by decide +kernel
theorem dX11_best_93 : decode cX11_best 93 = .ok (.ireturn, 1) := by decide +kernel
theorem dX11_slip_0 : decode cX11_slip 0 = .ok (.aload_n 0, 1) := by decide +kernel
theorem dX11_slip_1 : decode cX11_slip 1 = .ok (.iload_n 1, 1) := by decide +kernel
theorem dX11_slip_2 : decode cX11_slip 2 = .ok (.invokevirtual 274, 3) := by decide +kernel
theorem dX11_slip_5 : decode cX11_slip 5 = .ok (.ifCond .eq 37, 3) := by decide +kernel
theorem dX11_slip_8 : decode cX11_slip 8 = .ok (.iload_n 2, 1) := by decide +kernel
theorem dX11_slip_9 : decode cX11_slip 9 = .ok (.i2l, 1) := by decide +kernel
theorem dX11_slip_10 : decode cX11_slip 10 = .ok (.lconst 0, 1) := by decide +kernel
theorem dX11_slip_11 : decode cX11_slip 11 = .ok (.aload_n 0, 1) := by decide +kernel
theorem dX11_slip_12 : decode cX11_slip 12 = .ok (.getfield 306, 3) := by decide +kernel
theorem dX11_slip_15 : decode cX11_slip 15 = .ok (.iconst 1, 1) := by decide +kernel
theorem dX11_slip_16 : decode cX11_slip 16 = .ok (.isub, 1) := by decide +kernel
theorem dX11_slip_17 : decode cX11_slip 17 = .ok (.i2l, 1) := by decide +kernel
theorem dX11_slip_18 : decode cX11_slip 18 = .ok (.invokestatic 113, 3) := by decide +kernel
theorem dX11_slip_21 : decode cX11_slip 21 = .ok (.ifCond .eq 21, 3) := by decide +kernel
theorem dX11_slip_24 : decode cX11_slip 24 = .ok (.iload_n 3, 1) := by decide +kernel
theorem dX11_slip_25 : decode cX11_slip 25 = .ok (.i2l, 1) := by decide +kernel
theorem dX11_slip_26 : decode cX11_slip 26 = .ok (.lconst 0, 1) := by decide +kernel
theorem dX11_slip_27 : decode cX11_slip 27 = .ok (.lconst 1, 1) := by decide +kernel
theorem dX11_slip_28 : decode cX11_slip 28 = .ok (.invokestatic 113, 3) := by decide +kernel
theorem dX11_slip_31 : decode cX11_slip 31 = .ok (.ifCond .eq 11, 3) := by decide +kernel
theorem dX11_slip_34 : decode cX11_slip 34 = .ok (.aload_n 0, 1) := by decide +kernel
theorem dX11_slip_35 : decode cX11_slip 35 = .ok (.iload_n 2, 1) := by decide +kernel
theorem dX11_slip_36 : decode cX11_slip 36 = .ok (.invokevirtual 317, 3) := by decide +kernel
theorem dX11_slip_39 : decode cX11_slip 39 = .ok (.ifCond .ne 5, 3) := by decide +kernel
theorem dX11_slip_42 : decode cX11_slip 42 = .ok (.iconst (-1), 1) := by decide +kernel
theorem dX11_slip_43 : decode cX11_slip 43 = .ok (.ireturn, 1) := by decide +kernel
theorem dX11_slip_44 : decode cX11_slip 44 = .ok (.aload_n 0, 1) := by decide +kernel
theorem dX11_slip_45 : decode cX11_slip 45 = .ok (.iload_n 1, 1) := by decide +kernel
theorem dX11_slip_46 : decode cX11_slip 46 = .ok (.bipush 10, 2) := by decide +kernel
theorem dX11_slip_48 : decode cX11_slip 48 = .ok (.idiv, 1) := by decide +kernel
theorem dX11_slip_49 : decode cX11_slip 49 = .ok (.iload_n 1, 1) := by decide +kernel
theorem dX11_slip_50 : decode cX11_slip 50 = .ok (.bipush 10, 2) := by decide +kernel
theorem dX11_slip_52 : decode cX11_slip 52 = .ok (.irem, 1) := by decide +kernel
theorem dX11_slip_53 : decode cX11_slip 53 = .ok (.aload_n 0, 1) := by decide +kernel
theorem dX11_slip_54 : decode cX11_slip 54 = .ok (.getfield 64, 3) := by decide +kernel
theorem dX11_slip_57 : decode cX11_slip 57 = .ok (.iload_n 2, 1) := by decide +kernel
theorem dX11_slip_58 : decode cX11_slip 58 = .ok (.iaload, 1) := by decide +kernel
theorem dX11_slip_59 : decode cX11_slip 59 = .ok (.iconst 0, 1) := by decide +kernel
theorem dX11_slip_60 : decode cX11_slip 60 = .ok (.invokevirtual 279, 3) := by decide +kernel
theorem dX11_slip_63 : decode cX11_slip 63 = .ok (.ifCond .ne 6, 3) := by decide +kernel
theorem dX11_slip_66 : decode cX11_slip 66 = .ok (.bipush (-2), 2) := by decide +kernel
theorem dX11_slip_68 : decode cX11_slip 68 = .ok (.ireturn, 1) := by decide +kernel
theorem dX11_slip_69 : decode cX11_slip 69 = .ok (.iload_n 3, 1) := by decide +kernel
theorem dX11_slip_70 : decode cX11_slip 70 = .ok (.iconst 1, 1) := by decide +kernel
theorem dX11_slip_71 : decode cX11_slip 71 = .ok (.if_icmp .ne 13, 3) := by decide +kernel
theorem dX11_slip_74 : decode cX11_slip 74 = .ok (.aload_n 0, 1) := by decide +kernel
theorem dX11_slip_75 : decode cX11_slip 75 = .ok (.aload_n 0, 1) := by decide +kernel
theorem dX11_slip_76 : decode cX11_slip 76 = .ok (.iload_n 2, 1) := by decide +kernel
theorem dX11_slip_77 : decode cX11_slip 77 = .ok (.invokevirtual 317, 3) := by decide +kernel
theorem dX11_slip_80 : decode cX11_slip 80 = .ok (.invokevirtual 323, 3) := by decide +kernel
theorem dX11_slip_83 : decode cX11_slip 83 = .ok (.ireturn, 1) := by decide +kernel
theorem dX11_slip_84 : decode cX11_slip 84 = .ok (.iconst 0, 1) := by decide +kernel
theorem dX11_slip_85 : decode cX11_slip 85 = .ok (.istore 4, 2) := by decide +kernel
theorem dX11_slip_87 : decode cX11_slip 87 = .ok (.iload 4, 2) := by decide +kernel
theorem dX11_slip_89 : decode cX11_slip 89 = .ok (.aload_n 0, 1) := by decide +kernel
theorem dX11_slip_90 : decode cX11_slip 90 = .ok (.getfield 214, 3) := by decide +kernel
theorem dX11_slip_93 : decode cX11_slip 93 = .ok (.if_icmp .ge 26, 3) := by decide +kernel
theorem dX11_slip_96 : decode cX11_slip 96 = .ok (.aload_n 0, 1) := by decide +kernel
theorem dX11_slip_97 : decode cX11_slip 97 = .ok (.iload 4, 2) := by decide +kernel
theorem dX11_slip_99 : decode cX11_slip 99 = .ok (.aload_n 0, 1) := by decide +kernel
theorem dX11_slip_100 : decode cX11_slip 100 = .ok (.iload_n 2, 1) := by decide +kernel
theorem dX11_slip_101 : decode cX11_slip 101 = .ok (.invokevirtual 317, 3) := by decide +kernel
theorem dX11_slip_104 : decode cX11_slip 104 = .ok (.invokevirtual 320, 3) := by decide +kernel
theorem dX11_slip_107 : decode cX11_slip 107 = .ok (.ifCond .eq 6, 3) := by decide +kernel
theorem dX11_slip_110 : decode cX11_slip 110 = .ok (.iload 4, 2) := by decide +kernel
theorem dX11_slip_112 : decode cX11_slip 112 = .ok (.ireturn, 1) := by decide +kernel
theorem dX11_slip_113 : decode cX11_slip 113 = .ok (.iinc 4 1, 3) := by decide +kernel
theorem dX11_slip_116 : decode cX11_slip 116 = .ok (.goto (-29), 3) := by decide +kernel
theorem dX11_slip_119 : decode cX11_slip 119 = .ok (.bipush (-2), 2) := by decide +kernel
theorem dX11_slip_121 : decode cX11_slip 121 = .ok (.ireturn, 1) := by decide +kernel
theorem dX11_suits_0 : decode cX11_suits 0 = .ok (.aload_n 0, 1) := by decide +kernel
theorem dX11_suits_1 : decode cX11_suits 1 = .ok (.iload_n 1, 1) := by decide +kernel
theorem dX11_suits_2 : decode cX11_suits 2 = .ok (.invokevirtual 188, 3) := by decide +kernel
theorem dX11_suits_5 : decode cX11_suits 5 = .ok (.ifCond .ne 5, 3) := by decide +kernel
theorem dX11_suits_8 : decode cX11_suits 8 = .ok (.iconst (-1), 1) := by decide +kernel
theorem dX11_suits_9 : decode cX11_suits 9 = .ok (.ireturn, 1) := by decide +kernel
theorem dX11_suits_10 : decode cX11_suits 10 = .ok (.aload_n 0, 1) := by decide +kernel
theorem dX11_suits_11 : decode cX11_suits 11 = .ok (.getfield 306, 3) := by decide +kernel
theorem dX11_suits_14 : decode cX11_suits 14 = .ok (.ifCond .ne 6, 3) := by decide +kernel
theorem dX11_suits_17 : decode cX11_suits 17 = .ok (.bipush (-5), 2) := by decide +kernel
theorem dX11_suits_19 : decode cX11_suits 19 = .ok (.ireturn, 1) := by decide +kernel
theorem dX11_suits_20 : decode cX11_suits 20 = .ok (.iconst 0, 1) := by decide +kernel
theorem dX11_suits_21 : decode cX11_suits 21 = .ok (.istore_n 2, 1) := by decide +kernel
theorem dX11_suits_22 : decode cX11_suits 22 = .ok (.iconst 0, 1) := by decide +kernel
theorem dX11_suits_23 : decode cX11_suits 23 = .ok (.istore_n 3, 1) := by decide +kernel
theorem dX11_suits_24 : decode cX11_suits 24 = .ok (.iload_n 3, 1) := by decide +kernel
theorem dX11_suits_25 : decode cX11_suits 25 = .ok (.aload_n 0, 1) := by decide +kernel
theorem dX11_suits_26 : decode cX11_suits 26 = .ok (.getfield 306, 3) := by decide +kernel
theorem dX11_suits_29 : decode cX11_suits 29 = .ok (.if_icmp .ge 63, 3) := by decide +kernel
theorem dX11_suits_32 : decode cX11_suits 32 = .ok (.aload_n 0, 1) := by decide +kernel
theorem dX11_suits_33 : decode cX11_suits 33 = .ok (.iload_n 1, 1) := by decide +kernel
theorem dX11_suits_34 : decode cX11_suits 34 = .ok (.aload_n 0, 1) := by decide +kernel
theorem dX11_suits_35 : decode cX11_suits 35 = .ok (.getfield 64, 3) := by decide +kernel
theorem dX11_suits_38 : decode cX11_suits 38 = .ok (.iload_n 3, 1) := by decide +kernel
theorem dX11_suits_39 : decode cX11_suits 39 = .ok (.iaload, 1) := by decide +kernel
theorem dX11_suits_40 : decode cX11_suits 40 = .ok (.iconst 0, 1) := by decide +kernel
theorem dX11_suits_41 : decode cX11_suits 41 = .ok (.invokevirtual 297, 3) := by decide +kernel
theorem dX11_suits_44 : decode cX11_suits 44 = .ok (.istore 4, 2) := by decide +kernel
theorem dX11_suits_46 : decode cX11_suits 46 = .ok (.aload_n 0, 1) := by decide +kernel
theorem dX11_suits_47 : decode cX11_suits 47 = .ok (.invokevirtual 283, 3) := by decide +kernel
theorem dX11_suits_50 : decode cX11_suits 50 = .ok (.istore 5, 2) := by decide +kernel
theorem dX11_suits_52 : decode cX11_suits 52 = .ok (.aload_n 0, 1) := by decide +kernel
theorem dX11_suits_53 : decode cX11_suits 53 = .ok (.iload_n 1, 1) := by decide +kernel
theorem dX11_suits_54 : decode cX11_suits 54 = .ok (.iconst 1, 1) := by decide +kernel
theorem dX11_suits_55 : decode cX11_suits 55 = .ok (.aload_n 0, 1) := by decide +kernel
theorem dX11_suits_56 : decode cX11_suits 56 = .ok (.getfield 64, 3) := by decide +kernel
theorem dX11_suits_59 : decode cX11_suits 59 = .ok (.iload_n 3, 1) := by decide +kernel
theorem dX11_suits_60 : decode cX11_suits 60 = .ok (.iaload, 1) := by decide +kernel
theorem dX11_suits_61 : decode cX11_suits 61 = .ok (.iconst 0, 1) := by decide +kernel
theorem dX11_suits_62 : decode cX11_suits 62 = .ok (.invokevirtual 279, 3) := by decide +kernel
theorem dX11_suits_65 : decode cX11_suits 65 = .ok (.istore 6, 2) := by decide +kernel
theorem dX11_suits_67 : decode cX11_suits 67 = .ok (.iload_n 2, 1) := by decide +kernel
theorem dX11_suits_68 : decode cX11_suits 68 = .ok (.iload 5, 2) := by decide +kernel
theorem dX11_suits_70 : decode cX11_suits 70 = .ok (.aload_n 0, 1) := by decide +kernel
theorem dX11_suits_71 : decode cX11_suits 71 = .ok (.invokevirtual 283, 3) := by decide +kernel
theorem dX11_suits_74 : decode cX11_suits 74 = .ok (.iconst 2, 1) := by decide +kernel
theorem dX11_suits_75 : decode cX11_suits 75 = .ok (.idiv, 1) := by decide +kernel
theorem dX11_suits_76 : decode cX11_suits 76 = .ok (.if_icmp .gt 7, 3) := by decide +kernel
theorem dX11_suits_79 : decode cX11_suits 79 = .ok (.iconst 1, 1) := by decide +kernel
theorem dX11_suits_80 : decode cX11_suits 80 = .ok (.goto 4, 3) := by decide +kernel
theorem dX11_suits_83 : decode cX11_suits 83 = .ok (.iconst 0, 1) := by decide +kernel
theorem dX11_suits_84 : decode cX11_suits 84 = .ok (.iadd, 1) := by decide +kernel
theorem dX11_suits_85 : decode cX11_suits 85 = .ok (.istore_n 2, 1) := by decide +kernel
theorem dX11_suits_86 : decode cX11_suits 86 = .ok (.iinc 3 1, 3) := by decide +kernel
theorem dX11_suits_89 : decode cX11_suits 89 = .ok (.goto (-65), 3) := by decide +kernel
theorem dX11_suits_92 : decode cX11_suits 92 = .ok (.sipush 1000, 3) := by decide +kernel
theorem dX11_suits_95 : decode cX11_suits 95 = .ok (.iload_n 2, 1) := by decide +kernel
theorem dX11_suits_96 : decode cX11_suits 96 = .ok (.imul, 1) := by decide +kernel
theorem dX11_suits_97 : decode cX11_suits 97 = .ok (.aload_n 0, 1) := by decide +kernel
theorem dX11_suits_98 : decode cX11_suits 98 = .ok (.getfield 306, 3) := by decide +kernel
theorem dX11_suits_101 : decode cX11_suits 101 = .ok (.idiv, 1) := by decide +kernel
theorem dX11_suits_102 : decode cX11_suits 102 = .ok (.ireturn, 1) := by decide +kernel
theorem dX11_tell_0 : decode cX11_tell 0 = .ok (.iload_n 1, 1) := by decide +kernel
theorem dX11_tell_1 : decode cX11_tell 1 = .ok (.invokestatic 208, 3) := by decide +kernel
theorem dX11_tell_4 : decode cX11_tell 4 = .ok (.ifCond .ne 5, 3) := by decide +kernel
theorem dX11_tell_7 : decode cX11_tell 7 = .ok (.iconst (-1), 1) := by decide +kernel
theorem dX11_tell_8 : decode cX11_tell 8 = .ok (.ireturn, 1) := by decide +kernel
theorem dX11_tell_9 : decode cX11_tell 9 = .ok (.aload_n 0, 1) := by decide +kernel
theorem dX11_tell_10 : decode cX11_tell 10 = .ok (.getfield 333, 3) := by decide +kernel
theorem dX11_tell_13 : decode cX11_tell 13 = .ok (.bipush 8, 2) := by decide +kernel
theorem dX11_tell_15 : decode cX11_tell 15 = .ok (.if_icmp .ne 6, 3) := by decide +kernel
theorem dX11_tell_18 : decode cX11_tell 18 = .ok (.bipush (-3), 2) := by decide +kernel
theorem dX11_tell_20 : decode cX11_tell 20 = .ok (.ireturn, 1) := by decide +kernel
theorem dX11_tell_21 : decode cX11_tell 21 = .ok (.aload_n 0, 1) := by decide +kernel
theorem dX11_tell_22 : decode cX11_tell 22 = .ok (.getfield 73, 3) := by decide +kernel
theorem dX11_tell_25 : decode cX11_tell 25 = .ok (.aload_n 0, 1) := by decide +kernel
theorem dX11_tell_26 : decode cX11_tell 26 = .ok (.getfield 333, 3) := by decide +kernel
theorem dX11_tell_29 : decode cX11_tell 29 = .ok (.iload_n 1, 1) := by decide +kernel
theorem dX11_tell_30 : decode cX11_tell 30 = .ok (.iastore, 1) := by decide +kernel
theorem dX11_tell_31 : decode cX11_tell 31 = .ok (.aload_n 0, 1) := by decide +kernel
theorem dX11_tell_32 : decode cX11_tell 32 = .ok (.dup, 1) := by decide +kernel
theorem dX11_tell_33 : decode cX11_tell 33 = .ok (.getfield 333, 3) := by decide +kernel
theorem dX11_tell_36 : decode cX11_tell 36 = .ok (.iconst 1, 1) := by decide +kernel
theorem dX11_tell_37 : decode cX11_tell 37 = .ok (.iadd, 1) := by decide +kernel
theorem dX11_tell_38 : decode cX11_tell 38 = .ok (.putfield 333, 3) := by decide +kernel
theorem dX11_tell_41 : decode cX11_tell 41 = .ok (.aload_n 0, 1) := by decide +kernel
theorem dX11_tell_42 : decode cX11_tell 42 = .ok (.getfield 333, 3) := by decide +kernel
theorem dX11_tell_45 : decode cX11_tell 45 = .ok (.ireturn, 1) := by decide +kernel
theorem dX11_untell_0 : decode cX11_untell 0 = .ok (.aload_n 0, 1) := by decide +kernel
theorem dX11_untell_1 : decode cX11_untell 1 = .ok (.getfield 333, 3) := by decide +kernel
theorem dX11_untell_4 : decode cX11_untell 4 = .ok (.istore_n 1, 1) := by decide +kernel
theorem dX11_untell_5 : decode cX11_untell 5 = .ok (.aload_n 0, 1) := by decide +kernel
theorem dX11_untell_6 : decode cX11_untell 6 = .ok (.iconst 0, 1) := by decide +kernel
theorem dX11_untell_7 : decode cX11_untell 7 = .ok (.putfield 333, 3) := by decide +kernel
theorem dX11_untell_10 : decode cX11_untell 10 = .ok (.iload_n 1, 1) := by decide +kernel
theorem dX11_untell_11 : decode cX11_untell 11 = .ok (.ireturn, 1) := by decide +kernel
theorem dX11_parts_0 : decode cX11_parts 0 = .ok (.aload_n 0, 1) := by decide +kernel
theorem dX11_parts_1 : decode cX11_parts 1 = .ok (.iload_n 1, 1) := by decide +kernel
theorem dX11_parts_2 : decode cX11_parts 2 = .ok (.invokevirtual 188, 3) := by decide +kernel
theorem dX11_parts_5 : decode cX11_parts 5 = .ok (.ifCond .eq 25, 3) := by decide +kernel
theorem dX11_parts_8 : decode cX11_parts 8 = .ok (.iload_n 2, 1) := by decide +kernel
theorem dX11_parts_9 : decode cX11_parts 9 = .ok (.i2l, 1) := by decide +kernel
theorem dX11_parts_10 : decode cX11_parts 10 = .ok (.lconst 0, 1) := by decide +kernel
theorem dX11_parts_11 : decode cX11_parts 11 = .ok (.ldc2_w 336, 3) := by decide +kernel
theorem dX11_parts_14 : decode cX11_parts 14 = .ok (.invokestatic 113, 3) := by decide +kernel
theorem dX11_parts_17 : decode cX11_parts 17 = .ok (.ifCond .eq 13, 3) := by decide +kernel
theorem dX11_parts_20 : decode cX11_parts 20 = .ok (.iload_n 3, 1) := by decide +kernel
theorem dX11_parts_21 : decode cX11_parts 21 = .ok (.i2l, 1) := by decide +kernel
theorem dX11_parts_22 : decode cX11_parts 22 = .ok (.lconst 0, 1) := by decide +kernel
theorem dX11_parts_23 : decode cX11_parts 23 = .ok (.lconst 1, 1) := by decide +kernel
theorem dX11_parts_24 : decode cX11_parts 24 = .ok (.invokestatic 113, 3) := by decide +kernel
theorem dX11_parts_27 : decode cX11_parts 27 = .ok (.ifCond .ne 5, 3) := by decide +kernel
theorem dX11_parts_30 : decode cX11_parts 30 = .ok (.iconst (-1), 1) := by decide +kernel
theorem dX11_parts_31 : decode cX11_parts 31 = .ok (.ireturn, 1) := by decide +kernel
theorem dX11_parts_32 : decode cX11_parts 32 = .ok (.aload_n 0, 1) := by decide +kernel
theorem dX11_parts_33 : decode cX11_parts 33 = .ok (.getfield 333, 3) := by decide +kernel
theorem dX11_parts_36 : decode cX11_parts 36 = .ok (.ifCond .ne 6, 3) := by decide +kernel
theorem dX11_parts_39 : decode cX11_parts 39 = .ok (.bipush (-5), 2) := by decide +kernel
theorem dX11_parts_41 : decode cX11_parts 41 = .ok (.ireturn, 1) := by decide +kernel
theorem dX11_parts_42 : decode cX11_parts 42 = .ok (.bipush (-2), 2) := by decide +kernel
theorem dX11_parts_44 : decode cX11_parts 44 = .ok (.istore 4, 2) := by decide +kernel
theorem dX11_parts_46 : decode cX11_parts 46 = .ok (.iconst (-1), 1) := by decide +kernel
theorem dX11_parts_47 : decode cX11_parts 47 = .ok (.istore 5, 2) := by decide +kernel
theorem dX11_parts_49 : decode cX11_parts 49 = .ok (.iconst 0, 1) := by decide +kernel
theorem dX11_parts_50 : decode cX11_parts 50 = .ok (.istore 6, 2) := by decide +kernel
theorem dX11_parts_52 : decode cX11_parts 52 = .ok (.iload 6, 2) := by decide +kernel
theorem dX11_parts_54 : decode cX11_parts 54 = .ok (.aload_n 0, 1) := by decide +kernel
theorem dX11_parts_55 : decode cX11_parts 55 = .ok (.getfield 333, 3) := by decide +kernel
theorem dX11_parts_58 : decode cX11_parts 58 = .ok (.if_icmp .ge 130, 3) := by decide +kernel
theorem dX11_parts_61 : decode cX11_parts 61 = .ok (.iconst (-1), 1) := by decide +kernel
theorem dX11_parts_62 : decode cX11_parts 62 = .ok (.istore 7, 2) := by decide +kernel
theorem dX11_parts_64 : decode cX11_parts 64 = .ok (.iconst (-1), 1) := by decide +kernel
theorem dX11_parts_65 : decode cX11_parts 65 = .ok (.istore 8, 2) := by decide +kernel
theorem dX11_parts_67 : decode cX11_parts 67 = .ok (.iconst 0, 1) := by decide +kernel
theorem dX11_parts_68 : decode cX11_parts 68 = .ok (.istore 9, 2) := by decide +kernel
theorem dX11_parts_70 : decode cX11_parts 70 = .ok (.iload 9, 2) := by decide +kernel
theorem dX11_parts_72 : decode cX11_parts 72 = .ok (.bipush 7, 2) := by decide +kernel
theorem dX11_parts_74 : decode cX11_parts 74 = .ok (.if_icmp .ge 82, 3) := by decide +kernel
theorem dX11_parts_77 : decode cX11_parts 77 = .ok (.iload_n 2, 1) := by decide +kernel
theorem dX11_parts_78 : decode cX11_parts 78 = .ok (.iload 9, 2) := by decide +kernel
theorem dX11_parts_80 : decode cX11_parts 80 = .ok (.ishr, 1) := by decide +kernel
theorem dX11_parts_81 : decode cX11_parts 81 = .ok (.iconst 1, 1) := by decide +kernel
theorem dX11_parts_82 : decode cX11_parts 82 = .ok (.iand, 1) := by decide +kernel
theorem dX11_parts_83 : decode cX11_parts 83 = .ok (.iconst 1, 1) := by decide +kernel
theorem dX11_parts_84 : decode cX11_parts 84 = .ok (.if_icmp .ne 66, 3) := by decide +kernel
theorem dX11_parts_87 : decode cX11_parts 87 = .ok (.aload_n 0, 1) := by decide +kernel
theorem dX11_parts_88 : decode cX11_parts 88 = .ok (.iload_n 1, 1) := by decide +kernel
theorem dX11_parts_89 : decode cX11_parts 89 = .ok (.iload 9, 2) := by decide +kernel
theorem dX11_parts_91 : decode cX11_parts 91 = .ok (.aload_n 0, 1) := by decide +kernel
theorem dX11_parts_92 : decode cX11_parts 92 = .ok (.getfield 73, 3) := by decide +kernel
theorem dX11_parts_95 : decode cX11_parts 95 = .ok (.iload 6, 2) := by decide +kernel
theorem dX11_parts_97 : decode cX11_parts 97 = .ok (.iaload, 1) := by decide +kernel
theorem dX11_parts_98 : decode cX11_parts 98 = .ok (.iconst 0, 1) := by decide +kernel
theorem dX11_parts_99 : decode cX11_parts 99 = .ok (.invokevirtual 279, 3) := by decide +kernel
theorem dX11_parts_102 : decode cX11_parts 102 = .ok (.ifCond .eq 48, 3) := by decide +kernel
theorem dX11_parts_105 : decode cX11_parts 105 = .ok (.iload 7, 2) := by decide +kernel
theorem dX11_parts_107 : decode cX11_parts 107 = .ok (.ifCond .lt 12, 3) := by decide +kernel
theorem dX11_parts_110 : decode cX11_parts 110 = .ok (.aload_n 0, 1) := by decide +kernel
theorem dX11_parts_111 : decode cX11_parts 111 = .ok (.invokevirtual 283, 3) := by decide +kernel
theorem dX11_parts_114 : decode cX11_parts 114 = .ok (.iload 7, 2) := by decide +kernel
theorem dX11_parts_116 : decode cX11_parts 116 = .ok (.if_icmp .ge 10, 3) := by decide +kernel
theorem dX11_parts_119 : decode cX11_parts 119 = .ok (.aload_n 0, 1) := by decide +kernel
theorem dX11_parts_120 : decode cX11_parts 120 = .ok (.invokevirtual 283, 3) := by decide +kernel
theorem dX11_parts_123 : decode cX11_parts 123 = .ok (.goto 5, 3) := by decide +kernel
theorem dX11_parts_126 : decode cX11_parts 126 = .ok (.iload 7, 2) := by decide +kernel
theorem dX11_parts_128 : decode cX11_parts 128 = .ok (.istore 7, 2) := by decide +kernel
theorem dX11_parts_130 : decode cX11_parts 130 = .ok (.aload_n 0, 1) := by decide +kernel
theorem dX11_parts_131 : decode cX11_parts 131 = .ok (.invokevirtual 283, 3) := by decide +kernel
theorem dX11_parts_134 : decode cX11_parts 134 = .ok (.iload 8, 2) := by decide +kernel
theorem dX11_parts_136 : decode cX11_parts 136 = .ok (.if_icmp .le 10, 3) := by decide +kernel
theorem dX11_parts_139 : decode cX11_parts 139 = .ok (.aload_n 0, 1) := by decide +kernel
theorem dX11_parts_140 : decode cX11_parts 140 = .ok (.invokevirtual 283, 3) := by decide +kernel
theorem dX11_parts_143 : decode cX11_parts 143 = .ok (.goto 5, 3) := by decide +kernel
theorem dX11_parts_146 : decode cX11_parts 146 = .ok (.iload 8, 2) := by decide +kernel
theorem dX11_parts_148 : decode cX11_parts 148 = .ok (.istore 8, 2) := by decide +kernel
theorem dX11_parts_150 : decode cX11_parts 150 = .ok (.iinc 9 1, 3) := by decide +kernel
theorem dX11_parts_153 : decode cX11_parts 153 = .ok (.goto (-83), 3) := by decide +kernel
theorem dX11_parts_156 : decode cX11_parts 156 = .ok (.iload 7, 2) := by decide +kernel
theorem dX11_parts_158 : decode cX11_parts 158 = .ok (.ifCond .lt 24, 3) := by decide +kernel
theorem dX11_parts_161 : decode cX11_parts 161 = .ok (.iload 8, 2) := by decide +kernel
theorem dX11_parts_163 : decode cX11_parts 163 = .ok (.iload 7, 2) := by decide +kernel
theorem dX11_parts_165 : decode cX11_parts 165 = .ok (.isub, 1) := by decide +kernel
theorem dX11_parts_166 : decode cX11_parts 166 = .ok (.iload 5, 2) := by decide +kernel
theorem dX11_parts_168 : decode cX11_parts 168 = .ok (.if_icmp .le 14, 3) := by decide +kernel
theorem dX11_parts_171 : decode cX11_parts 171 = .ok (.iload 6, 2) := by decide +kernel
theorem dX11_parts_173 : decode cX11_parts 173 = .ok (.istore 4, 2) := by decide +kernel
theorem dX11_parts_175 : decode cX11_parts 175 = .ok (.iload 8, 2) := by decide +kernel
theorem dX11_parts_177 : decode cX11_parts 177 = .ok (.iload 7, 2) := by decide +kernel
theorem dX11_parts_179 : decode cX11_parts 179 = .ok (.isub, 1) := by decide +kernel
theorem dX11_parts_180 : decode cX11_parts 180 = .ok (.istore 5, 2) := by decide +kernel
theorem dX11_parts_182 : decode cX11_parts 182 = .ok (.iinc 6 1, 3) := by decide +kernel
theorem dX11_parts_185 : decode cX11_parts 185 = .ok (.goto (-133), 3) := by decide +kernel
theorem dX11_parts_188 : decode cX11_parts 188 = .ok (.iload 4, 2) := by decide +kernel
theorem dX11_parts_190 : decode cX11_parts 190 = .ok (.ifCond .ge 8, 3) := by decide +kernel
theorem dX11_parts_193 : decode cX11_parts 193 = .ok (.bipush (-2), 2) := by decide +kernel
theorem dX11_parts_195 : decode cX11_parts 195 = .ok (.goto 14, 3) := by decide +kernel
theorem dX11_parts_198 : decode cX11_parts 198 = .ok (.iload_n 3, 1) := by decide +kernel
theorem dX11_parts_199 : decode cX11_parts 199 = .ok (.ifCond .ne 8, 3) := by decide +kernel
theorem dX11_parts_202 : decode cX11_parts 202 = .ok (.iload 4, 2) := by decide +kernel
theorem dX11_parts_204 : decode cX11_parts 204 = .ok (.goto 5, 3) := by decide +kernel
theorem dX11_parts_207 : decode cX11_parts 207 = .ok (.iload 5, 2) := by decide +kernel
theorem dX11_parts_209 : decode cX11_parts 209 = .ok (.ireturn, 1) := by decide +kernel
theorem dX11_keeps_0 : decode cX11_keeps 0 = .ok (.aload_n 0, 1) := by decide +kernel
theorem dX11_keeps_1 : decode cX11_keeps 1 = .ok (.aload_n 0, 1) := by decide +kernel
theorem dX11_keeps_2 : decode cX11_keeps 2 = .ok (.getfield 34, 3) := by decide +kernel
theorem dX11_keeps_5 : decode cX11_keeps 5 = .ok (.iload_n 1, 1) := by decide +kernel
theorem dX11_keeps_6 : decode cX11_keeps 6 = .ok (.iaload, 1) := by decide +kernel
theorem dX11_keeps_7 : decode cX11_keeps 7 = .ok (.putfield 338, 3) := by decide +kernel
theorem dX11_keeps_10 : decode cX11_keeps 10 = .ok (.iconst 0, 1) := by decide +kernel
theorem dX11_keeps_11 : decode cX11_keeps 11 = .ok (.istore_n 2, 1) := by decide +kernel
theorem dX11_keeps_12 : decode cX11_keeps 12 = .ok (.iload_n 2, 1) := by decide +kernel
theorem dX11_keeps_13 : decode cX11_keeps 13 = .ok (.bipush 60, 2) := by decide +kernel
theorem dX11_keeps_15 : decode cX11_keeps 15 = .ok (.if_icmp .ge 26, 3) := by decide +kernel
theorem dX11_keeps_18 : decode cX11_keeps 18 = .ok (.aload_n 0, 1) := by decide +kernel
theorem dX11_keeps_19 : decode cX11_keeps 19 = .ok (.getfield 76, 3) := by decide +kernel
theorem dX11_keeps_22 : decode cX11_keeps 22 = .ok (.iload_n 2, 1) := by decide +kernel
theorem dX11_keeps_23 : decode cX11_keeps 23 = .ok (.aload_n 0, 1) := by decide +kernel
theorem dX11_keeps_24 : decode cX11_keeps 24 = .ok (.getfield 40, 3) := by decide +kernel
theorem dX11_keeps_27 : decode cX11_keeps 27 = .ok (.bipush 60, 2) := by decide +kernel
theorem dX11_keeps_29 : decode cX11_keeps 29 = .ok (.iload_n 1, 1) := by decide +kernel
theorem dX11_keeps_30 : decode cX11_keeps 30 = .ok (.imul, 1) := by decide +kernel
theorem dX11_keeps_31 : decode cX11_keeps 31 = .ok (.iload_n 2, 1) := by decide +kernel
theorem dX11_keeps_32 : decode cX11_keeps 32 = .ok (.iadd, 1) := by decide +kernel
theorem dX11_keeps_33 : decode cX11_keeps 33 = .ok (.iaload, 1) := by decide +kernel
theorem dX11_keeps_34 : decode cX11_keeps 34 = .ok (.iastore, 1) := by decide +kernel
theorem dX11_keeps_35 : decode cX11_keeps 35 = .ok (.iinc 2 1, 3) := by decide +kernel
theorem dX11_keeps_38 : decode cX11_keeps 38 = .ok (.goto (-26), 3) := by decide +kernel
theorem dX11_keeps_41 : decode cX11_keeps 41 = .ok (.return_, 1) := by decide +kernel
theorem dX11_putsBack_0 : decode cX11_putsBack 0 = .ok (.aload_n 0, 1) := by decide +kernel
theorem dX11_putsBack_1 : decode cX11_putsBack 1 = .ok (.getfield 34, 3) := by decide +kernel
theorem dX11_putsBack_4 : decode cX11_putsBack 4 = .ok (.iload_n 1, 1) := by decide +kernel
theorem dX11_putsBack_5 : decode cX11_putsBack 5 = .ok (.aload_n 0, 1) := by decide +kernel
theorem dX11_putsBack_6 : decode cX11_putsBack 6 = .ok (.getfield 338, 3) := by decide +kernel
theorem dX11_putsBack_9 : decode cX11_putsBack 9 = .ok (.iastore, 1) := by decide +kernel
theorem dX11_putsBack_10 : decode cX11_putsBack 10 = .ok (.iconst 0, 1) := by decide +kernel
theorem dX11_putsBack_11 : decode cX11_putsBack 11 = .ok (.istore_n 2, 1) := by decide +kernel
theorem dX11_putsBack_12 : decode cX11_putsBack 12 = .ok (.iload_n 2, 1) := by decide +kernel
theorem dX11_putsBack_13 : decode cX11_putsBack 13 = .ok (.bipush 60, 2) := by decide +kernel
theorem dX11_putsBack_15 : decode cX11_putsBack 15 = .ok (.if_icmp .ge 26, 3) := by decide +kernel
theorem dX11_putsBack_18 : decode cX11_putsBack 18 = .ok (.aload_n 0, 1) := by decide +kernel
theorem dX11_putsBack_19 : decode cX11_putsBack 19 = .ok (.getfield 40, 3) := by decide +kernel
theorem dX11_putsBack_22 : decode cX11_putsBack 22 = .ok (.bipush 60, 2) := by decide +kernel
theorem dX11_putsBack_24 : decode cX11_putsBack 24 = .ok (.iload_n 1, 1) := by decide +kernel
theorem dX11_putsBack_25 : decode cX11_putsBack 25 = .ok (.imul, 1) := by decide +kernel
theorem dX11_putsBack_26 : decode cX11_putsBack 26 = .ok (.iload_n 2, 1) := by decide +kernel
theorem dX11_putsBack_27 : decode cX11_putsBack 27 = .ok (.iadd, 1) := by decide +kernel
theorem dX11_putsBack_28 : decode cX11_putsBack 28 = .ok (.aload_n 0, 1) := by decide +kernel
theorem dX11_putsBack_29 : decode cX11_putsBack 29 = .ok (.getfield 76, 3) := by decide +kernel
theorem dX11_putsBack_32 : decode cX11_putsBack 32 = .ok (.iload_n 2, 1) := by decide +kernel
theorem dX11_putsBack_33 : decode cX11_putsBack 33 = .ok (.iaload, 1) := by decide +kernel
theorem dX11_putsBack_34 : decode cX11_putsBack 34 = .ok (.iastore, 1) := by decide +kernel
theorem dX11_putsBack_35 : decode cX11_putsBack 35 = .ok (.iinc 2 1, 3) := by decide +kernel
theorem dX11_putsBack_38 : decode cX11_putsBack 38 = .ok (.goto (-26), 3) := by decide +kernel
theorem dX11_putsBack_41 : decode cX11_putsBack 41 = .ok (.return_, 1) := by decide +kernel
theorem dX11_asksOne_0 : decode cX11_asksOne 0 = .ok (.aload_n 0, 1) := by decide +kernel
theorem dX11_asksOne_1 : decode cX11_asksOne 1 = .ok (.iload_n 1, 1) := by decide +kernel
theorem dX11_asksOne_2 : decode cX11_asksOne 2 = .ok (.iload_n 2, 1) := by decide +kernel
theorem dX11_asksOne_3 : decode cX11_asksOne 3 = .ok (.iconst 0, 1) := by decide +kernel
theorem dX11_asksOne_4 : decode cX11_asksOne 4 = .ok (.invokevirtual 297, 3) := by decide +kernel
theorem dX11_asksOne_7 : decode cX11_asksOne 7 = .ok (.istore_n 3, 1) := by decide +kernel
theorem dX11_asksOne_8 : decode cX11_asksOne 8 = .ok (.aload_n 0, 1) := by decide +kernel
theorem dX11_asksOne_9 : decode cX11_asksOne 9 = .ok (.invokevirtual 283, 3) := by decide +kernel
theorem dX11_asksOne_12 : decode cX11_asksOne 12 = .ok (.istore 4, 2) := by decide +kernel
theorem dX11_asksOne_14 : decode cX11_asksOne 14 = .ok (.aload_n 0, 1) := by decide +kernel
theorem dX11_asksOne_15 : decode cX11_asksOne 15 = .ok (.iload_n 1, 1) := by decide +kernel
theorem dX11_asksOne_16 : decode cX11_asksOne 16 = .ok (.iload_n 2, 1) := by decide +kernel
theorem dX11_asksOne_17 : decode cX11_asksOne 17 = .ok (.invokevirtual 211, 3) := by decide +kernel
theorem dX11_asksOne_20 : decode cX11_asksOne 20 = .ok (.istore 5, 2) := by decide +kernel
theorem dX11_asksOne_22 : decode cX11_asksOne 22 = .ok (.iload 4, 2) := by decide +kernel
theorem dX11_asksOne_24 : decode cX11_asksOne 24 = .ok (.ireturn, 1) := by decide +kernel
theorem dX11_isListBad_0 : decode cX11_isListBad 0 = .ok (.iconst 0, 1) := by decide +kernel
theorem dX11_isListBad_1 : decode cX11_isListBad 1 = .ok (.istore_n 1, 1) := by decide +kernel
theorem dX11_isListBad_2 : decode cX11_isListBad 2 = .ok (.iload_n 1, 1) := by decide +kernel
theorem dX11_isListBad_3 : decode cX11_isListBad 3 = .ok (.aload_n 0, 1) := by decide +kernel
theorem dX11_isListBad_4 : decode cX11_isListBad 4 = .ok (.getfield 333, 3) := by decide +kernel
theorem dX11_isListBad_7 : decode cX11_isListBad 7 = .ok (.if_icmp .ge 23, 3) := by decide +kernel
theorem dX11_isListBad_10 : decode cX11_isListBad 10 = .ok (.aload_n 0, 1) := by decide +kernel
theorem dX11_isListBad_11 : decode cX11_isListBad 11 = .ok (.getfield 73, 3) := by decide +kernel
theorem dX11_isListBad_14 : decode cX11_isListBad 14 = .ok (.iload_n 1, 1) := by decide +kernel
theorem dX11_isListBad_15 : decode cX11_isListBad 15 = .ok (.iaload, 1) := by decide +kernel
theorem dX11_isListBad_16 : decode cX11_isListBad 16 = .ok (.invokestatic 202, 3) := by decide +kernel
theorem dX11_isListBad_19 : decode cX11_isListBad 19 = .ok (.ifCond .ne 5, 3) := by decide +kernel
theorem dX11_isListBad_22 : decode cX11_isListBad 22 = .ok (.iconst 1, 1) := by decide +kernel
theorem dX11_isListBad_23 : decode cX11_isListBad 23 = .ok (.ireturn, 1) := by decide +kernel
theorem dX11_isListBad_24 : decode cX11_isListBad 24 = .ok (.iinc 1 1, 3) := by decide +kernel
theorem dX11_isListBad_27 : decode cX11_isListBad 27 = .ok (.goto (-25), 3) := by decide +kernel
theorem dX11_isListBad_30 : decode cX11_isListBad 30 = .ok (.iconst 0, 1) := by decide +kernel
theorem dX11_isListBad_31 : decode cX11_isListBad 31 = .ok (.ireturn, 1) := by decide +kernel
theorem dX11_taught_0 : decode cX11_taught 0 = .ok (.aload_n 0, 1) := by decide +kernel
theorem dX11_taught_1 : decode cX11_taught 1 = .ok (.iload_n 1, 1) := by decide +kernel
theorem dX11_taught_2 : decode cX11_taught 2 = .ok (.invokevirtual 188, 3) := by decide +kernel
theorem dX11_taught_5 : decode cX11_taught 5 = .ok (.ifCond .eq 32, 3) := by decide +kernel
theorem dX11_taught_8 : decode cX11_taught 8 = .ok (.iload_n 2, 1) := by decide +kernel
theorem dX11_taught_9 : decode cX11_taught 9 = .ok (.i2l, 1) := by decide +kernel
theorem dX11_taught_10 : decode cX11_taught 10 = .ok (.lconst 1, 1) := by decide +kernel
theorem dX11_taught_11 : decode cX11_taught 11 = .ok (.ldc2_w 341, 3) := by decide +kernel
theorem dX11_taught_14 : decode cX11_taught 14 = .ok (.invokestatic 113, 3) := by decide +kernel
theorem dX11_taught_17 : decode cX11_taught 17 = .ok (.ifCond .eq 20, 3) := by decide +kernel
theorem dX11_taught_20 : decode cX11_taught 20 = .ok (.iload_n 3, 1) := by decide +kernel
theorem dX11_taught_21 : decode cX11_taught 21 = .ok (.i2l, 1) := by decide +kernel
theorem dX11_taught_22 : decode cX11_taught 22 = .ok (.lconst 0, 1) := by decide +kernel
theorem dX11_taught_23 : decode cX11_taught 23 = .ok (.lconst 1, 1) := by decide +kernel
theorem dX11_taught_24 : decode cX11_taught 24 = .ok (.invokestatic 113, 3) := by decide +kernel
theorem dX11_taught_27 : decode cX11_taught 27 = .ok (.ifCond .eq 10, 3) := by decide +kernel
theorem dX11_taught_30 : decode cX11_taught 30 = .ok (.aload_n 0, 1) := by decide +kernel
theorem dX11_taught_31 : decode cX11_taught 31 = .ok (.invokevirtual 343, 3) := by decide +kernel
theorem dX11_taught_34 : decode cX11_taught 34 = .ok (.ifCond .eq 5, 3) := by decide +kernel
theorem dX11_taught_37 : decode cX11_taught 37 = .ok (.iconst (-1), 1) := by decide +kernel
theorem dX11_taught_38 : decode cX11_taught 38 = .ok (.ireturn, 1) := by decide +kernel
theorem dX11_taught_39 : decode cX11_taught 39 = .ok (.aload_n 0, 1) := by decide +kernel
theorem dX11_taught_40 : decode cX11_taught 40 = .ok (.getfield 333, 3) := by decide +kernel
theorem dX11_taught_43 : decode cX11_taught 43 = .ok (.ifCond .ne 6, 3) := by decide +kernel
theorem dX11_taught_46 : decode cX11_taught 46 = .ok (.bipush (-5), 2) := by decide +kernel
theorem dX11_taught_48 : decode cX11_taught 48 = .ok (.ireturn, 1) := by decide +kernel
theorem dX11_taught_49 : decode cX11_taught 49 = .ok (.aload_n 0, 1) := by decide +kernel
theorem dX11_taught_50 : decode cX11_taught 50 = .ok (.iload_n 1, 1) := by decide +kernel
theorem dX11_taught_51 : decode cX11_taught 51 = .ok (.invokevirtual 347, 3) := by decide +kernel
theorem dX11_taught_54 : decode cX11_taught 54 = .ok (.iconst 0, 1) := by decide +kernel
theorem dX11_taught_55 : decode cX11_taught 55 = .ok (.istore 4, 2) := by decide +kernel
theorem dX11_taught_57 : decode cX11_taught 57 = .ok (.iconst 0, 1) := by decide +kernel
theorem dX11_taught_58 : decode cX11_taught 58 = .ok (.istore 5, 2) := by decide +kernel
theorem dX11_taught_60 : decode cX11_taught 60 = .ok (.iload 5, 2) := by decide +kernel
theorem dX11_taught_62 : decode cX11_taught 62 = .ok (.iload_n 2, 1) := by decide +kernel
theorem dX11_taught_63 : decode cX11_taught 63 = .ok (.if_icmp .ge 31, 3) := by decide +kernel
theorem dX11_taught_66 : decode cX11_taught 66 = .ok (.iload 4, 2) := by decide +kernel
theorem dX11_taught_68 : decode cX11_taught 68 = .ok (.aload_n 0, 1) := by decide +kernel
theorem dX11_taught_69 : decode cX11_taught 69 = .ok (.iload_n 1, 1) := by decide +kernel
theorem dX11_taught_70 : decode cX11_taught 70 = .ok (.aload_n 0, 1) := by decide +kernel
theorem dX11_taught_71 : decode cX11_taught 71 = .ok (.getfield 73, 3) := by decide +kernel
theorem dX11_taught_74 : decode cX11_taught 74 = .ok (.iload 5, 2) := by decide +kernel
theorem dX11_taught_76 : decode cX11_taught 76 = .ok (.aload_n 0, 1) := by decide +kernel
theorem dX11_taught_77 : decode cX11_taught 77 = .ok (.getfield 333, 3) := by decide +kernel
theorem dX11_taught_80 : decode cX11_taught 80 = .ok (.irem, 1) := by decide +kernel
theorem dX11_taught_81 : decode cX11_taught 81 = .ok (.iaload, 1) := by decide +kernel
theorem dX11_taught_82 : decode cX11_taught 82 = .ok (.invokevirtual 351, 3) := by decide +kernel
theorem dX11_taught_85 : decode cX11_taught 85 = .ok (.iadd, 1) := by decide +kernel
theorem dX11_taught_86 : decode cX11_taught 86 = .ok (.istore 4, 2) := by decide +kernel
theorem dX11_taught_88 : decode cX11_taught 88 = .ok (.iinc 5 1, 3) := by decide +kernel
theorem dX11_taught_91 : decode cX11_taught 91 = .ok (.goto (-31), 3) := by decide +kernel
theorem dX11_taught_94 : decode cX11_taught 94 = .ok (.aload_n 0, 1) := by decide +kernel
theorem dX11_taught_95 : decode cX11_taught 95 = .ok (.iload_n 1, 1) := by decide +kernel
theorem dX11_taught_96 : decode cX11_taught 96 = .ok (.invokevirtual 191, 3) := by decide +kernel
theorem dX11_taught_99 : decode cX11_taught 99 = .ok (.istore 5, 2) := by decide +kernel
theorem dX11_taught_101 : decode cX11_taught 101 = .ok (.aload_n 0, 1) := by decide +kernel
theorem dX11_taught_102 : decode cX11_taught 102 = .ok (.iload_n 1, 1) := by decide +kernel
theorem dX11_taught_103 : decode cX11_taught 103 = .ok (.invokevirtual 354, 3) := by decide +kernel
theorem dX11_taught_106 : decode cX11_taught 106 = .ok (.iload_n 3, 1) := by decide +kernel
theorem dX11_taught_107 : decode cX11_taught 107 = .ok (.ifCond .ne 8, 3) := by decide +kernel
theorem dX11_taught_110 : decode cX11_taught 110 = .ok (.iload 4, 2) := by decide +kernel
theorem dX11_taught_112 : decode cX11_taught 112 = .ok (.goto 5, 3) := by decide +kernel
theorem dX11_taught_115 : decode cX11_taught 115 = .ok (.iload 5, 2) := by decide +kernel
theorem dX11_taught_117 : decode cX11_taught 117 = .ok (.ireturn, 1) := by decide +kernel
theorem dX11_ordersFrom_0 : decode cX11_ordersFrom 0 = .ok (.iload_n 3, 1) := by decide +kernel
theorem dX11_ordersFrom_1 : decode cX11_ordersFrom 1 = .ok (.iload_n 2, 1) := by decide +kernel
theorem dX11_ordersFrom_2 : decode cX11_ordersFrom 2 = .ok (.if_icmp .ne 81, 3) := by decide +kernel
theorem dX11_ordersFrom_5 : decode cX11_ordersFrom 5 = .ok (.iconst 0, 1) := by decide +kernel
theorem dX11_ordersFrom_6 : decode cX11_ordersFrom 6 = .ok (.istore 6, 2) := by decide +kernel
theorem dX11_ordersFrom_8 : decode cX11_ordersFrom 8 = .ok (.iconst 0, 1) := by decide +kernel
theorem dX11_ordersFrom_9 : decode cX11_ordersFrom 9 = .ok (.istore 7, 2) := by decide +kernel
theorem dX11_ordersFrom_11 : decode cX11_ordersFrom 11 = .ok (.iload 7, 2) := by decide +kernel
theorem dX11_ordersFrom_13 : decode cX11_ordersFrom 13 = .ok (.iconst 3, 1) := by decide +kernel
theorem dX11_ordersFrom_14 : decode cX11_ordersFrom 14 = .ok (.iload_n 2, 1) := by decide +kernel
theorem dX11_ordersFrom_15 : decode cX11_ordersFrom 15 = .ok (.imul, 1) := by decide +kernel
theorem dX11_ordersFrom_16 : decode cX11_ordersFrom 16 = .ok (.if_icmp .ge 33, 3) := by decide +kernel
theorem dX11_ordersFrom_19 : decode cX11_ordersFrom 19 = .ok (.iload 6, 2) := by decide +kernel
theorem dX11_ordersFrom_21 : decode cX11_ordersFrom 21 = .ok (.aload_n 0, 1) := by decide +kernel
theorem dX11_ordersFrom_22 : decode cX11_ordersFrom 22 = .ok (.iload_n 1, 1) := by decide +kernel
theorem dX11_ordersFrom_23 : decode cX11_ordersFrom 23 = .ok (.aload_n 0, 1) := by decide +kernel
theorem dX11_ordersFrom_24 : decode cX11_ordersFrom 24 = .ok (.getfield 73, 3) := by decide +kernel
theorem dX11_ordersFrom_27 : decode cX11_ordersFrom 27 = .ok (.aload_n 0, 1) := by decide +kernel
theorem dX11_ordersFrom_28 : decode cX11_ordersFrom 28 = .ok (.getfield 79, 3) := by decide +kernel
theorem dX11_ordersFrom_31 : decode cX11_ordersFrom 31 = .ok (.iload 7, 2) := by decide +kernel
theorem dX11_ordersFrom_33 : decode cX11_ordersFrom 33 = .ok (.iconst 3, 1) := by decide +kernel
theorem dX11_ordersFrom_34 : decode cX11_ordersFrom 34 = .ok (.idiv, 1) := by decide +kernel
theorem dX11_ordersFrom_35 : decode cX11_ordersFrom 35 = .ok (.iaload, 1) := by decide +kernel
theorem dX11_ordersFrom_36 : decode cX11_ordersFrom 36 = .ok (.iaload, 1) := by decide +kernel
theorem dX11_ordersFrom_37 : decode cX11_ordersFrom 37 = .ok (.invokevirtual 351, 3) := by decide +kernel
theorem dX11_ordersFrom_40 : decode cX11_ordersFrom 40 = .ok (.iadd, 1) := by decide +kernel
theorem dX11_ordersFrom_41 : decode cX11_ordersFrom 41 = .ok (.istore 6, 2) := by decide +kernel
theorem dX11_ordersFrom_43 : decode cX11_ordersFrom 43 = .ok (.iinc 7 1, 3) := by decide +kernel
theorem dX11_ordersFrom_46 : decode cX11_ordersFrom 46 = .ok (.goto (-35), 3) := by decide +kernel
theorem dX11_ordersFrom_49 : decode cX11_ordersFrom 49 = .ok (.aload_n 0, 1) := by decide +kernel
theorem dX11_ordersFrom_50 : decode cX11_ordersFrom 50 = .ok (.iload_n 1, 1) := by decide +kernel
theorem dX11_ordersFrom_51 : decode cX11_ordersFrom 51 = .ok (.invokevirtual 354, 3) := by decide +kernel
theorem dX11_ordersFrom_54 : decode cX11_ordersFrom 54 = .ok (.aload_n 0, 1) := by decide +kernel
theorem dX11_ordersFrom_55 : decode cX11_ordersFrom 55 = .ok (.getfield 357, 3) := by decide +kernel
theorem dX11_ordersFrom_58 : decode cX11_ordersFrom 58 = .ok (.ifCond .lt 12, 3) := by decide +kernel
theorem dX11_ordersFrom_61 : decode cX11_ordersFrom 61 = .ok (.iload 6, 2) := by decide +kernel
theorem dX11_ordersFrom_63 : decode cX11_ordersFrom 63 = .ok (.aload_n 0, 1) := by decide +kernel
theorem dX11_ordersFrom_64 : decode cX11_ordersFrom 64 = .ok (.getfield 357, 3) := by decide +kernel
theorem dX11_ordersFrom_67 : decode cX11_ordersFrom 67 = .ok (.if_icmp .ge 15, 3) := by decide +kernel
theorem dX11_ordersFrom_70 : decode cX11_ordersFrom 70 = .ok (.aload_n 0, 1) := by decide +kernel
theorem dX11_ordersFrom_71 : decode cX11_ordersFrom 71 = .ok (.iload 6, 2) := by decide +kernel
theorem dX11_ordersFrom_73 : decode cX11_ordersFrom 73 = .ok (.putfield 357, 3) := by decide +kernel
theorem dX11_ordersFrom_76 : decode cX11_ordersFrom 76 = .ok (.aload_n 0, 1) := by decide +kernel
theorem dX11_ordersFrom_77 : decode cX11_ordersFrom 77 = .ok (.iload 5, 2) := by decide +kernel
theorem dX11_ordersFrom_79 : decode cX11_ordersFrom 79 = .ok (.putfield 360, 3) := by decide +kernel
theorem dX11_ordersFrom_82 : decode cX11_ordersFrom 82 = .ok (.return_, 1) := by decide +kernel
theorem dX11_ordersFrom_83 : decode cX11_ordersFrom 83 = .ok (.iconst 0, 1) := by decide +kernel
theorem dX11_ordersFrom_84 : decode cX11_ordersFrom 84 = .ok (.istore 6, 2) := by decide +kernel
theorem dX11_ordersFrom_86 : decode cX11_ordersFrom 86 = .ok (.iload 6, 2) := by decide +kernel
theorem dX11_ordersFrom_88 : decode cX11_ordersFrom 88 = .ok (.iload_n 2, 1) := by decide +kernel
theorem dX11_ordersFrom_89 : decode cX11_ordersFrom 89 = .ok (.if_icmp .ge 53, 3) := by decide +kernel
theorem dX11_ordersFrom_92 : decode cX11_ordersFrom 92 = .ok (.iload 4, 2) := by decide +kernel
theorem dX11_ordersFrom_94 : decode cX11_ordersFrom 94 = .ok (.iload 6, 2) := by decide +kernel
theorem dX11_ordersFrom_96 : decode cX11_ordersFrom 96 = .ok (.ishr, 1) := by decide +kernel
theorem dX11_ordersFrom_97 : decode cX11_ordersFrom 97 = .ok (.iconst 1, 1) := by decide +kernel
theorem dX11_ordersFrom_98 : decode cX11_ordersFrom 98 = .ok (.iand, 1) := by decide +kernel
theorem dX11_ordersFrom_99 : decode cX11_ordersFrom 99 = .ok (.ifCond .ne 37, 3) := by decide +kernel
theorem dX11_ordersFrom_102 : decode cX11_ordersFrom 102 = .ok (.aload_n 0, 1) := by decide +kernel
theorem dX11_ordersFrom_103 : decode cX11_ordersFrom 103 = .ok (.getfield 79, 3) := by decide +kernel
theorem dX11_ordersFrom_106 : decode cX11_ordersFrom 106 = .ok (.iload_n 3, 1) := by decide +kernel
theorem dX11_ordersFrom_107 : decode cX11_ordersFrom 107 = .ok (.iload 6, 2) := by decide +kernel
theorem dX11_ordersFrom_109 : decode cX11_ordersFrom 109 = .ok (.iastore, 1) := by decide +kernel
theorem dX11_ordersFrom_110 : decode cX11_ordersFrom 110 = .ok (.aload_n 0, 1) := by decide +kernel
theorem dX11_ordersFrom_111 : decode cX11_ordersFrom 111 = .ok (.iload_n 1, 1) := by decide +kernel
theorem dX11_ordersFrom_112 : decode cX11_ordersFrom 112 = .ok (.iload_n 2, 1) := by decide +kernel
theorem dX11_ordersFrom_113 : decode cX11_ordersFrom 113 = .ok (.iload_n 3, 1) := by decide +kernel
theorem dX11_ordersFrom_114 : decode cX11_ordersFrom 114 = .ok (.iconst 1, 1) := by decide +kernel
theorem dX11_ordersFrom_115 : decode cX11_ordersFrom 115 = .ok (.iadd, 1) := by decide +kernel
theorem dX11_ordersFrom_116 : decode cX11_ordersFrom 116 = .ok (.iload 4, 2) := by decide +kernel
theorem dX11_ordersFrom_118 : decode cX11_ordersFrom 118 = .ok (.iconst 1, 1) := by decide +kernel
theorem dX11_ordersFrom_119 : decode cX11_ordersFrom 119 = .ok (.iload 6, 2) := by decide +kernel
theorem dX11_ordersFrom_121 : decode cX11_ordersFrom 121 = .ok (.ishl, 1) := by decide +kernel
theorem dX11_ordersFrom_122 : decode cX11_ordersFrom 122 = .ok (.ior, 1) := by decide +kernel
theorem dX11_ordersFrom_123 : decode cX11_ordersFrom 123 = .ok (.bipush 10, 2) := by decide +kernel
theorem dX11_ordersFrom_125 : decode cX11_ordersFrom 125 = .ok (.iload 5, 2) := by decide +kernel
theorem dX11_ordersFrom_127 : decode cX11_ordersFrom 127 = .ok (.imul, 1) := by decide +kernel
theorem dX11_ordersFrom_128 : decode cX11_ordersFrom 128 = .ok (.iload 6, 2) := by decide +kernel
theorem dX11_ordersFrom_130 : decode cX11_ordersFrom 130 = .ok (.iadd, 1) := by decide +kernel
theorem dX11_ordersFrom_131 : decode cX11_ordersFrom 131 = .ok (.iconst 1, 1) := by decide +kernel
theorem dX11_ordersFrom_132 : decode cX11_ordersFrom 132 = .ok (.iadd, 1) := by decide +kernel
theorem dX11_ordersFrom_133 : decode cX11_ordersFrom 133 = .ok (.invokevirtual 363, 3) := by decide +kernel
theorem dX11_ordersFrom_136 : decode cX11_ordersFrom 136 = .ok (.iinc 6 1, 3) := by decide +kernel
theorem dX11_ordersFrom_139 : decode cX11_ordersFrom 139 = .ok (.goto (-53), 3) := by decide +kernel
theorem dX11_ordersFrom_142 : decode cX11_ordersFrom 142 = .ok (.return_, 1) := by decide +kernel
theorem dX11_first_0 : decode cX11_first 0 = .ok (.aload_n 0, 1) := by decide +kernel
theorem dX11_first_1 : decode cX11_first 1 = .ok (.iload_n 1, 1) := by decide +kernel
theorem dX11_first_2 : decode cX11_first 2 = .ok (.invokevirtual 188, 3) := by decide +kernel
theorem dX11_first_5 : decode cX11_first 5 = .ok (.ifCond .eq 20, 3) := by decide +kernel
theorem dX11_first_8 : decode cX11_first 8 = .ok (.iload_n 2, 1) := by decide +kernel
theorem dX11_first_9 : decode cX11_first 9 = .ok (.i2l, 1) := by decide +kernel
theorem dX11_first_10 : decode cX11_first 10 = .ok (.lconst 0, 1) := by decide +kernel
theorem dX11_first_11 : decode cX11_first 11 = .ok (.lconst 1, 1) := by decide +kernel
theorem dX11_first_12 : decode cX11_first 12 = .ok (.invokestatic 113, 3) := by decide +kernel
theorem dX11_first_15 : decode cX11_first 15 = .ok (.ifCond .eq 10, 3) := by decide +kernel
theorem dX11_first_18 : decode cX11_first 18 = .ok (.aload_n 0, 1) := by decide +kernel
theorem dX11_first_19 : decode cX11_first 19 = .ok (.invokevirtual 343, 3) := by decide +kernel
theorem dX11_first_22 : decode cX11_first 22 = .ok (.ifCond .eq 5, 3) := by decide +kernel
theorem dX11_first_25 : decode cX11_first 25 = .ok (.iconst (-1), 1) := by decide +kernel
theorem dX11_first_26 : decode cX11_first 26 = .ok (.ireturn, 1) := by decide +kernel
theorem dX11_first_27 : decode cX11_first 27 = .ok (.aload_n 0, 1) := by decide +kernel
theorem dX11_first_28 : decode cX11_first 28 = .ok (.getfield 333, 3) := by decide +kernel
theorem dX11_first_31 : decode cX11_first 31 = .ok (.ifCond .ne 6, 3) := by decide +kernel
theorem dX11_first_34 : decode cX11_first 34 = .ok (.bipush (-5), 2) := by decide +kernel
theorem dX11_first_36 : decode cX11_first 36 = .ok (.ireturn, 1) := by decide +kernel
theorem dX11_first_37 : decode cX11_first 37 = .ok (.aload_n 0, 1) := by decide +kernel
theorem dX11_first_38 : decode cX11_first 38 = .ok (.iload_n 1, 1) := by decide +kernel
theorem dX11_first_39 : decode cX11_first 39 = .ok (.invokevirtual 347, 3) := by decide +kernel
theorem dX11_first_42 : decode cX11_first 42 = .ok (.aload_n 0, 1) := by decide +kernel
theorem dX11_first_43 : decode cX11_first 43 = .ok (.iconst (-1), 1) := by decide +kernel
theorem dX11_first_44 : decode cX11_first 44 = .ok (.putfield 357, 3) := by decide +kernel
theorem dX11_first_47 : decode cX11_first 47 = .ok (.aload_n 0, 1) := by decide +kernel
theorem dX11_first_48 : decode cX11_first 48 = .ok (.iload_n 1, 1) := by decide +kernel
theorem dX11_first_49 : decode cX11_first 49 = .ok (.aload_n 0, 1) := by decide +kernel
theorem dX11_first_50 : decode cX11_first 50 = .ok (.getfield 333, 3) := by decide +kernel
theorem dX11_first_53 : decode cX11_first 53 = .ok (.iconst 5, 1) := by decide +kernel
theorem dX11_first_54 : decode cX11_first 54 = .ok (.if_icmp .ge 10, 3) := by decide +kernel
theorem dX11_first_57 : decode cX11_first 57 = .ok (.aload_n 0, 1) := by decide +kernel
theorem dX11_first_58 : decode cX11_first 58 = .ok (.getfield 333, 3) := by decide +kernel
theorem dX11_first_61 : decode cX11_first 61 = .ok (.goto 4, 3) := by decide +kernel
theorem dX11_first_64 : decode cX11_first 64 = .ok (.iconst 5, 1) := by decide +kernel
theorem dX11_first_65 : decode cX11_first 65 = .ok (.iconst 0, 1) := by decide +kernel
theorem dX11_first_66 : decode cX11_first 66 = .ok (.iconst 0, 1) := by decide +kernel
theorem dX11_first_67 : decode cX11_first 67 = .ok (.iconst 0, 1) := by decide +kernel
theorem dX11_first_68 : decode cX11_first 68 = .ok (.invokevirtual 363, 3) := by decide +kernel
theorem dX11_first_71 : decode cX11_first 71 = .ok (.iload_n 2, 1) := by decide +kernel
theorem dX11_first_72 : decode cX11_first 72 = .ok (.ifCond .ne 10, 3) := by decide +kernel
theorem dX11_first_75 : decode cX11_first 75 = .ok (.aload_n 0, 1) := by decide +kernel
theorem dX11_first_76 : decode cX11_first 76 = .ok (.getfield 360, 3) := by decide +kernel
theorem dX11_first_79 : decode cX11_first 79 = .ok (.goto 7, 3) := by decide +kernel
theorem dX11_first_82 : decode cX11_first 82 = .ok (.aload_n 0, 1) := by decide +kernel
theorem dX11_first_83 : decode cX11_first 83 = .ok (.getfield 357, 3) := by decide +kernel
theorem dX11_first_86 : decode cX11_first 86 = .ok (.ireturn, 1) := by decide +kernel
theorem dX11_isPower_0 : decode cX11_isPower 0 = .ok (.iload_n 0, 1) := by decide +kernel
theorem dX11_isPower_1 : decode cX11_isPower 1 = .ok (.iconst 2, 1) := by decide +kernel
theorem dX11_isPower_2 : decode cX11_isPower 2 = .ok (.if_icmp .eq 13, 3) := by decide +kernel
theorem dX11_isPower_5 : decode cX11_isPower 5 = .ok (.iload_n 0, 1) := by decide +kernel
theorem dX11_isPower_6 : decode cX11_isPower 6 = .ok (.iconst 3, 1) := by decide +kernel
theorem dX11_isPower_7 : decode cX11_isPower 7 = .ok (.if_icmp .eq 8, 3) := by decide +kernel
theorem dX11_isPower_10 : decode cX11_isPower 10 = .ok (.iload_n 0, 1) := by decide +kernel
theorem dX11_isPower_11 : decode cX11_isPower 11 = .ok (.iconst 5, 1) := by decide +kernel
theorem dX11_isPower_12 : decode cX11_isPower 12 = .ok (.if_icmp .ne 7, 3) := by decide +kernel
theorem dX11_isPower_15 : decode cX11_isPower 15 = .ok (.iconst 1, 1) := by decide +kernel
theorem dX11_isPower_16 : decode cX11_isPower 16 = .ok (.goto 4, 3) := by decide +kernel
theorem dX11_isPower_19 : decode cX11_isPower 19 = .ok (.iconst 0, 1) := by decide +kernel
theorem dX11_isPower_20 : decode cX11_isPower 20 = .ok (.ireturn, 1) := by decide +kernel
theorem dX11_powerOf_0 : decode cX11_powerOf 0 = .ok (.lconst 1, 1) := by decide +kernel
theorem dX11_powerOf_1 : decode cX11_powerOf 1 = .ok (.lstore_n 3, 1) := by decide +kernel
theorem dX11_powerOf_2 : decode cX11_powerOf 2 = .ok (.iconst 0, 1) := by decide +kernel
theorem dX11_powerOf_3 : decode cX11_powerOf 3 = .ok (.istore 5, 2) := by decide +kernel
theorem dX11_powerOf_5 : decode cX11_powerOf 5 = .ok (.iload 5, 2) := by decide +kernel
theorem dX11_powerOf_7 : decode cX11_powerOf 7 = .ok (.iload_n 2, 1) := by decide +kernel
theorem dX11_powerOf_8 : decode cX11_powerOf 8 = .ok (.if_icmp .ge 27, 3) := by decide +kernel
theorem dX11_powerOf_11 : decode cX11_powerOf 11 = .ok (.lload_n 3, 1) := by decide +kernel
theorem dX11_powerOf_12 : decode cX11_powerOf 12 = .ok (.ldc2_w 367, 3) := by decide +kernel
theorem dX11_powerOf_15 : decode cX11_powerOf 15 = .ok (.lload_n 0, 1) := by decide +kernel
theorem dX11_powerOf_16 : decode cX11_powerOf 16 = .ok (.ldiv, 1) := by decide +kernel
theorem dX11_powerOf_17 : decode cX11_powerOf 17 = .ok (.lcmp, 1) := by decide +kernel
theorem dX11_powerOf_18 : decode cX11_powerOf 18 = .ok (.ifCond .le 7, 3) := by decide +kernel
theorem dX11_powerOf_21 : decode cX11_powerOf 21 = .ok (.ldc2_w 369, 3) := by decide +kernel
theorem dX11_powerOf_24 : decode cX11_powerOf 24 = .ok (.lreturn, 1) := by decide +kernel
theorem dX11_powerOf_25 : decode cX11_powerOf 25 = .ok (.lload_n 3, 1) := by decide +kernel
theorem dX11_powerOf_26 : decode cX11_powerOf 26 = .ok (.lload_n 0, 1) := by decide +kernel
theorem dX11_powerOf_27 : decode cX11_powerOf 27 = .ok (.lmul, 1) := by decide +kernel
theorem dX11_powerOf_28 : decode cX11_powerOf 28 = .ok (.lstore_n 3, 1) := by decide +kernel
theorem dX11_powerOf_29 : decode cX11_powerOf 29 = .ok (.iinc 5 1, 3) := by decide +kernel
theorem dX11_powerOf_32 : decode cX11_powerOf 32 = .ok (.goto (-27), 3) := by decide +kernel
theorem dX11_powerOf_35 : decode cX11_powerOf 35 = .ok (.lload_n 3, 1) := by decide +kernel
theorem dX11_powerOf_36 : decode cX11_powerOf 36 = .ok (.lreturn, 1) := by decide +kernel
theorem dX11_leastOf_0 : decode cX11_leastOf 0 = .ok (.lconst 0, 1) := by decide +kernel
theorem dX11_leastOf_1 : decode cX11_leastOf 1 = .ok (.lstore_n 3, 1) := by decide +kernel
theorem dX11_leastOf_2 : decode cX11_leastOf 2 = .ok (.ldc2_w 371, 3) := by decide +kernel
theorem dX11_leastOf_5 : decode cX11_leastOf 5 = .ok (.lstore 5, 2) := by decide +kernel
theorem dX11_leastOf_7 : decode cX11_leastOf 7 = .ok (.lload 5, 2) := by decide +kernel
theorem dX11_leastOf_9 : decode cX11_leastOf 9 = .ok (.lload_n 3, 1) := by decide +kernel
theorem dX11_leastOf_10 : decode cX11_leastOf 10 = .ok (.lsub, 1) := by decide +kernel
theorem dX11_leastOf_11 : decode cX11_leastOf 11 = .ok (.lconst 1, 1) := by decide +kernel
theorem dX11_leastOf_12 : decode cX11_leastOf 12 = .ok (.lcmp, 1) := by decide +kernel
theorem dX11_leastOf_13 : decode cX11_leastOf 13 = .ok (.ifCond .le 37, 3) := by decide +kernel
theorem dX11_leastOf_16 : decode cX11_leastOf 16 = .ok (.lload_n 3, 1) := by decide +kernel
theorem dX11_leastOf_17 : decode cX11_leastOf 17 = .ok (.lload 5, 2) := by decide +kernel
theorem dX11_leastOf_19 : decode cX11_leastOf 19 = .ok (.ladd, 1) := by decide +kernel
theorem dX11_leastOf_20 : decode cX11_leastOf 20 = .ok (.ldc2_w 277, 3) := by decide +kernel
theorem dX11_leastOf_23 : decode cX11_leastOf 23 = .ok (.ldiv, 1) := by decide +kernel
theorem dX11_leastOf_24 : decode cX11_leastOf 24 = .ok (.lstore 7, 2) := by decide +kernel
theorem dX11_leastOf_26 : decode cX11_leastOf 26 = .ok (.lload 7, 2) := by decide +kernel
theorem dX11_leastOf_28 : decode cX11_leastOf 28 = .ok (.iload_n 2, 1) := by decide +kernel
theorem dX11_leastOf_29 : decode cX11_leastOf 29 = .ok (.invokestatic 373, 3) := by decide +kernel
theorem dX11_leastOf_32 : decode cX11_leastOf 32 = .ok (.lload_n 0, 1) := by decide +kernel
theorem dX11_leastOf_33 : decode cX11_leastOf 33 = .ok (.lcmp, 1) := by decide +kernel
theorem dX11_leastOf_34 : decode cX11_leastOf 34 = .ok (.ifCond .lt 10, 3) := by decide +kernel
theorem dX11_leastOf_37 : decode cX11_leastOf 37 = .ok (.lload 7, 2) := by decide +kernel
theorem dX11_leastOf_39 : decode cX11_leastOf 39 = .ok (.lstore 5, 2) := by decide +kernel
theorem dX11_leastOf_41 : decode cX11_leastOf 41 = .ok (.goto 6, 3) := by decide +kernel
theorem dX11_leastOf_44 : decode cX11_leastOf 44 = .ok (.lload 7, 2) := by decide +kernel
theorem dX11_leastOf_46 : decode cX11_leastOf 46 = .ok (.lstore_n 3, 1) := by decide +kernel
theorem dX11_leastOf_47 : decode cX11_leastOf 47 = .ok (.goto (-40), 3) := by decide +kernel
theorem dX11_leastOf_50 : decode cX11_leastOf 50 = .ok (.lload 5, 2) := by decide +kernel
theorem dX11_leastOf_52 : decode cX11_leastOf 52 = .ok (.lreturn, 1) := by decide +kernel
theorem dX11_isNumber_0 : decode cX11_isNumber 0 = .ok (.lload_n 0, 1) := by decide +kernel
theorem dX11_isNumber_1 : decode cX11_isNumber 1 = .ok (.lconst 1, 1) := by decide +kernel
theorem dX11_isNumber_2 : decode cX11_isNumber 2 = .ok (.ldc2_w 367, 3) := by decide +kernel
theorem dX11_isNumber_5 : decode cX11_isNumber 5 = .ok (.invokestatic 113, 3) := by decide +kernel
theorem dX11_isNumber_8 : decode cX11_isNumber 8 = .ok (.ifCond .eq 14, 3) := by decide +kernel
theorem dX11_isNumber_11 : decode cX11_isNumber 11 = .ok (.iload_n 2, 1) := by decide +kernel
theorem dX11_isNumber_12 : decode cX11_isNumber 12 = .ok (.invokestatic 377, 3) := by decide +kernel
theorem dX11_isNumber_15 : decode cX11_isNumber 15 = .ok (.ifCond .eq 7, 3) := by decide +kernel
theorem dX11_isNumber_18 : decode cX11_isNumber 18 = .ok (.iconst 1, 1) := by decide +kernel
theorem dX11_isNumber_19 : decode cX11_isNumber 19 = .ok (.goto 4, 3) := by decide +kernel
theorem dX11_isNumber_22 : decode cX11_isNumber 22 = .ok (.iconst 0, 1) := by decide +kernel
theorem dX11_isNumber_23 : decode cX11_isNumber 23 = .ok (.ireturn, 1) := by decide +kernel
theorem dX11_rootOf_0 : decode cX11_rootOf 0 = .ok (.lload_n 0, 1) := by decide +kernel
theorem dX11_rootOf_1 : decode cX11_rootOf 1 = .ok (.iload_n 2, 1) := by decide +kernel
theorem dX11_rootOf_2 : decode cX11_rootOf 2 = .ok (.invokestatic 380, 3) := by decide +kernel
theorem dX11_rootOf_5 : decode cX11_rootOf 5 = .ok (.lstore_n 3, 1) := by decide +kernel
theorem dX11_rootOf_6 : decode cX11_rootOf 6 = .ok (.lload_n 3, 1) := by decide +kernel
theorem dX11_rootOf_7 : decode cX11_rootOf 7 = .ok (.iload_n 2, 1) := by decide +kernel
theorem dX11_rootOf_8 : decode cX11_rootOf 8 = .ok (.invokestatic 373, 3) := by decide +kernel
theorem dX11_rootOf_11 : decode cX11_rootOf 11 = .ok (.lload_n 0, 1) := by decide +kernel
theorem dX11_rootOf_12 : decode cX11_rootOf 12 = .ok (.lcmp, 1) := by decide +kernel
theorem dX11_rootOf_13 : decode cX11_rootOf 13 = .ok (.ifCond .ne 8, 3) := by decide +kernel
theorem dX11_rootOf_16 : decode cX11_rootOf 16 = .ok (.lload_n 3, 1) := by decide +kernel
theorem dX11_rootOf_17 : decode cX11_rootOf 17 = .ok (.l2i, 1) := by decide +kernel
theorem dX11_rootOf_18 : decode cX11_rootOf 18 = .ok (.goto 4, 3) := by decide +kernel
theorem dX11_rootOf_21 : decode cX11_rootOf 21 = .ok (.iconst 0, 1) := by decide +kernel
theorem dX11_rootOf_22 : decode cX11_rootOf 22 = .ok (.ireturn, 1) := by decide +kernel
theorem dX11_root_0 : decode cX11_root 0 = .ok (.lload_n 1, 1) := by decide +kernel
theorem dX11_root_1 : decode cX11_root 1 = .ok (.iload_n 3, 1) := by decide +kernel
theorem dX11_root_2 : decode cX11_root 2 = .ok (.invokestatic 383, 3) := by decide +kernel
theorem dX11_root_5 : decode cX11_root 5 = .ok (.ifCond .eq 11, 3) := by decide +kernel
theorem dX11_root_8 : decode cX11_root 8 = .ok (.lload_n 1, 1) := by decide +kernel
theorem dX11_root_9 : decode cX11_root 9 = .ok (.iload_n 3, 1) := by decide +kernel
theorem dX11_root_10 : decode cX11_root 10 = .ok (.invokestatic 387, 3) := by decide +kernel
theorem dX11_root_13 : decode cX11_root 13 = .ok (.goto 4, 3) := by decide +kernel
theorem dX11_root_16 : decode cX11_root 16 = .ok (.iconst (-1), 1) := by decide +kernel
theorem dX11_root_17 : decode cX11_root 17 = .ok (.ireturn, 1) := by decide +kernel
theorem dX11_digitsOf_0 : decode cX11_digitsOf 0 = .ok (.iconst 0, 1) := by decide +kernel
theorem dX11_digitsOf_1 : decode cX11_digitsOf 1 = .ok (.istore_n 2, 1) := by decide +kernel
theorem dX11_digitsOf_2 : decode cX11_digitsOf 2 = .ok (.lload_n 0, 1) := by decide +kernel
theorem dX11_digitsOf_3 : decode cX11_digitsOf 3 = .ok (.lstore_n 3, 1) := by decide +kernel
theorem dX11_digitsOf_4 : decode cX11_digitsOf 4 = .ok (.lload_n 3, 1) := by decide +kernel
theorem dX11_digitsOf_5 : decode cX11_digitsOf 5 = .ok (.lconst 0, 1) := by decide +kernel
theorem dX11_digitsOf_6 : decode cX11_digitsOf 6 = .ok (.lcmp, 1) := by decide +kernel
theorem dX11_digitsOf_7 : decode cX11_digitsOf 7 = .ok (.ifCond .le 15, 3) := by decide +kernel
theorem dX11_digitsOf_10 : decode cX11_digitsOf 10 = .ok (.iinc 2 1, 3) := by decide +kernel
theorem dX11_digitsOf_13 : decode cX11_digitsOf 13 = .ok (.lload_n 3, 1) := by decide +kernel
theorem dX11_digitsOf_14 : decode cX11_digitsOf 14 = .ok (.ldc2_w 391, 3) := by decide +kernel
theorem dX11_digitsOf_17 : decode cX11_digitsOf 17 = .ok (.ldiv, 1) := by decide +kernel
theorem dX11_digitsOf_18 : decode cX11_digitsOf 18 = .ok (.lstore_n 3, 1) := by decide +kernel
theorem dX11_digitsOf_19 : decode cX11_digitsOf 19 = .ok (.goto (-15), 3) := by decide +kernel
theorem dX11_digitsOf_22 : decode cX11_digitsOf 22 = .ok (.iload_n 2, 1) := by decide +kernel
theorem dX11_digitsOf_23 : decode cX11_digitsOf 23 = .ok (.ireturn, 1) := by decide +kernel
theorem dX11_lastOf_0 : decode cX11_lastOf 0 = .ok (.iconst 1, 1) := by decide +kernel
theorem dX11_lastOf_1 : decode cX11_lastOf 1 = .ok (.istore_n 2, 1) := by decide +kernel
theorem dX11_lastOf_2 : decode cX11_lastOf 2 = .ok (.iconst 0, 1) := by decide +kernel
theorem dX11_lastOf_3 : decode cX11_lastOf 3 = .ok (.istore_n 3, 1) := by decide +kernel
theorem dX11_lastOf_4 : decode cX11_lastOf 4 = .ok (.iload_n 3, 1) := by decide +kernel
theorem dX11_lastOf_5 : decode cX11_lastOf 5 = .ok (.iload_n 1, 1) := by decide +kernel
theorem dX11_lastOf_6 : decode cX11_lastOf 6 = .ok (.if_icmp .ge 16, 3) := by decide +kernel
theorem dX11_lastOf_9 : decode cX11_lastOf 9 = .ok (.iload_n 2, 1) := by decide +kernel
theorem dX11_lastOf_10 : decode cX11_lastOf 10 = .ok (.iload_n 0, 1) := by decide +kernel
theorem dX11_lastOf_11 : decode cX11_lastOf 11 = .ok (.imul, 1) := by decide +kernel
theorem dX11_lastOf_12 : decode cX11_lastOf 12 = .ok (.bipush 10, 2) := by decide +kernel
theorem dX11_lastOf_14 : decode cX11_lastOf 14 = .ok (.irem, 1) := by decide +kernel
theorem dX11_lastOf_15 : decode cX11_lastOf 15 = .ok (.istore_n 2, 1) := by decide +kernel
theorem dX11_lastOf_16 : decode cX11_lastOf 16 = .ok (.iinc 3 1, 3) := by decide +kernel
theorem dX11_lastOf_19 : decode cX11_lastOf 19 = .ok (.goto (-15), 3) := by decide +kernel
theorem dX11_lastOf_22 : decode cX11_lastOf 22 = .ok (.iload_n 2, 1) := by decide +kernel
theorem dX11_lastOf_23 : decode cX11_lastOf 23 = .ok (.ireturn, 1) := by decide +kernel
theorem dX11_endingBelow_0 : decode cX11_endingBelow 0 = .ok (.lload_n 0, 1) := by decide +kernel
theorem dX11_endingBelow_1 : decode cX11_endingBelow 1 = .ok (.iload_n 2, 1) := by decide +kernel
theorem dX11_endingBelow_2 : decode cX11_endingBelow 2 = .ok (.i2l, 1) := by decide +kernel
theorem dX11_endingBelow_3 : decode cX11_endingBelow 3 = .ok (.lcmp, 1) := by decide +kernel
theorem dX11_endingBelow_4 : decode cX11_endingBelow 4 = .ok (.ifCond .gt 7, 3) := by decide +kernel
theorem dX11_endingBelow_7 : decode cX11_endingBelow 7 = .ok (.lconst 0, 1) := by decide +kernel
theorem dX11_endingBelow_8 : decode cX11_endingBelow 8 = .ok (.goto 15, 3) := by decide +kernel
theorem dX11_endingBelow_11 : decode cX11_endingBelow 11 = .ok (.lload_n 0, 1) := by decide +kernel
theorem dX11_endingBelow_12 : decode cX11_endingBelow 12 = .ok (.lconst 1, 1) := by decide +kernel
theorem dX11_endingBelow_13 : decode cX11_endingBelow 13 = .ok (.lsub, 1) := by decide +kernel
theorem dX11_endingBelow_14 : decode cX11_endingBelow 14 = .ok (.iload_n 2, 1) := by decide +kernel
theorem dX11_endingBelow_15 : decode cX11_endingBelow 15 = .ok (.i2l, 1) := by decide +kernel
theorem dX11_endingBelow_16 : decode cX11_endingBelow 16 = .ok (.lsub, 1) := by decide +kernel
theorem dX11_endingBelow_17 : decode cX11_endingBelow 17 = .ok (.ldc2_w 391, 3) := by decide +kernel
theorem dX11_endingBelow_20 : decode cX11_endingBelow 20 = .ok (.ldiv, 1) := by decide +kernel
theorem dX11_endingBelow_21 : decode cX11_endingBelow 21 = .ok (.lconst 1, 1) := by decide +kernel
theorem dX11_endingBelow_22 : decode cX11_endingBelow 22 = .ok (.ladd, 1) := by decide +kernel
theorem dX11_endingBelow_23 : decode cX11_endingBelow 23 = .ok (.lreturn, 1) := by decide +kernel
theorem dX11_manyFirsts_0 : decode cX11_manyFirsts 0 = .ok (.lload_n 1, 1) := by decide +kernel
theorem dX11_manyFirsts_1 : decode cX11_manyFirsts 1 = .ok (.invokestatic 393, 3) := by decide +kernel
theorem dX11_manyFirsts_4 : decode cX11_manyFirsts 4 = .ok (.istore 5, 2) := by decide +kernel
theorem dX11_manyFirsts_6 : decode cX11_manyFirsts 6 = .ok (.lconst 1, 1) := by decide +kernel
theorem dX11_manyFirsts_7 : decode cX11_manyFirsts 7 = .ok (.lstore 6, 2) := by decide +kernel
theorem dX11_manyFirsts_9 : decode cX11_manyFirsts 9 = .ok (.iconst 0, 1) := by decide +kernel
theorem dX11_manyFirsts_10 : decode cX11_manyFirsts 10 = .ok (.istore 8, 2) := by decide +kernel
theorem dX11_manyFirsts_12 : decode cX11_manyFirsts 12 = .ok (.iload 8, 2) := by decide +kernel
theorem dX11_manyFirsts_14 : decode cX11_manyFirsts 14 = .ok (.iload 5, 2) := by decide +kernel
theorem dX11_manyFirsts_16 : decode cX11_manyFirsts 16 = .ok (.iload 4, 2) := by decide +kernel
theorem dX11_manyFirsts_18 : decode cX11_manyFirsts 18 = .ok (.isub, 1) := by decide +kernel
theorem dX11_manyFirsts_19 : decode cX11_manyFirsts 19 = .ok (.if_icmp .ge 17, 3) := by decide +kernel
theorem dX11_manyFirsts_22 : decode cX11_manyFirsts 22 = .ok (.lload 6, 2) := by decide +kernel
theorem dX11_manyFirsts_24 : decode cX11_manyFirsts 24 = .ok (.ldc2_w 391, 3) := by decide +kernel
theorem dX11_manyFirsts_27 : decode cX11_manyFirsts 27 = .ok (.lmul, 1) := by decide +kernel
theorem dX11_manyFirsts_28 : decode cX11_manyFirsts 28 = .ok (.lstore 6, 2) := by decide +kernel
theorem dX11_manyFirsts_30 : decode cX11_manyFirsts 30 = .ok (.iinc 8 1, 3) := by decide +kernel
theorem dX11_manyFirsts_33 : decode cX11_manyFirsts 33 = .ok (.goto (-21), 3) := by decide +kernel
theorem dX11_manyFirsts_36 : decode cX11_manyFirsts 36 = .ok (.lload_n 1, 1) := by decide +kernel
theorem dX11_manyFirsts_37 : decode cX11_manyFirsts 37 = .ok (.lload 6, 2) := by decide +kernel
theorem dX11_manyFirsts_39 : decode cX11_manyFirsts 39 = .ok (.ldiv, 1) := by decide +kernel
theorem dX11_manyFirsts_40 : decode cX11_manyFirsts 40 = .ok (.lload 6, 2) := by decide +kernel
theorem dX11_manyFirsts_42 : decode cX11_manyFirsts 42 = .ok (.lmul, 1) := by decide +kernel
theorem dX11_manyFirsts_43 : decode cX11_manyFirsts 43 = .ok (.lstore 8, 2) := by decide +kernel
theorem dX11_manyFirsts_45 : decode cX11_manyFirsts 45 = .ok (.lload 8, 2) := by decide +kernel
theorem dX11_manyFirsts_47 : decode cX11_manyFirsts 47 = .ok (.iload_n 3, 1) := by decide +kernel
theorem dX11_manyFirsts_48 : decode cX11_manyFirsts 48 = .ok (.invokestatic 380, 3) := by decide +kernel
theorem dX11_manyFirsts_51 : decode cX11_manyFirsts 51 = .ok (.lstore 10, 2) := by decide +kernel
theorem dX11_manyFirsts_53 : decode cX11_manyFirsts 53 = .ok (.lload 8, 2) := by decide +kernel
theorem dX11_manyFirsts_55 : decode cX11_manyFirsts 55 = .ok (.lload 6, 2) := by decide +kernel
theorem dX11_manyFirsts_57 : decode cX11_manyFirsts 57 = .ok (.ladd, 1) := by decide +kernel
theorem dX11_manyFirsts_58 : decode cX11_manyFirsts 58 = .ok (.lconst 1, 1) := by decide +kernel
theorem dX11_manyFirsts_59 : decode cX11_manyFirsts 59 = .ok (.lsub, 1) := by decide +kernel
theorem dX11_manyFirsts_60 : decode cX11_manyFirsts 60 = .ok (.ldc2_w 367, 3) := by decide +kernel
theorem dX11_manyFirsts_63 : decode cX11_manyFirsts 63 = .ok (.lcmp, 1) := by decide +kernel
theorem dX11_manyFirsts_64 : decode cX11_manyFirsts 64 = .ok (.ifCond .lt 37, 3) := by decide +kernel
theorem dX11_manyFirsts_67 : decode cX11_manyFirsts 67 = .ok (.ldc2_w 367, 3) := by decide +kernel
theorem dX11_manyFirsts_70 : decode cX11_manyFirsts 70 = .ok (.iload_n 3, 1) := by decide +kernel
theorem dX11_manyFirsts_71 : decode cX11_manyFirsts 71 = .ok (.invokestatic 380, 3) := by decide +kernel
theorem dX11_manyFirsts_74 : decode cX11_manyFirsts 74 = .ok (.ldc2_w 367, 3) := by decide +kernel
theorem dX11_manyFirsts_77 : decode cX11_manyFirsts 77 = .ok (.iload_n 3, 1) := by decide +kernel
theorem dX11_manyFirsts_78 : decode cX11_manyFirsts 78 = .ok (.invokestatic 380, 3) := by decide +kernel
theorem dX11_manyFirsts_81 : decode cX11_manyFirsts 81 = .ok (.iload_n 3, 1) := by decide +kernel
theorem dX11_manyFirsts_82 : decode cX11_manyFirsts 82 = .ok (.invokestatic 373, 3) := by decide +kernel
theorem dX11_manyFirsts_85 : decode cX11_manyFirsts 85 = .ok (.ldc2_w 367, 3) := by decide +kernel
theorem dX11_manyFirsts_88 : decode cX11_manyFirsts 88 = .ok (.lcmp, 1) := by decide +kernel
theorem dX11_manyFirsts_89 : decode cX11_manyFirsts 89 = .ok (.ifCond .gt 7, 3) := by decide +kernel
theorem dX11_manyFirsts_92 : decode cX11_manyFirsts 92 = .ok (.lconst 1, 1) := by decide +kernel
theorem dX11_manyFirsts_93 : decode cX11_manyFirsts 93 = .ok (.goto 4, 3) := by decide +kernel
theorem dX11_manyFirsts_96 : decode cX11_manyFirsts 96 = .ok (.lconst 0, 1) := by decide +kernel
theorem dX11_manyFirsts_97 : decode cX11_manyFirsts 97 = .ok (.ladd, 1) := by decide +kernel
theorem dX11_manyFirsts_98 : decode cX11_manyFirsts 98 = .ok (.goto 12, 3) := by decide +kernel
theorem dX11_manyFirsts_101 : decode cX11_manyFirsts 101 = .ok (.lload 8, 2) := by decide +kernel
theorem dX11_manyFirsts_103 : decode cX11_manyFirsts 103 = .ok (.lload 6, 2) := by decide +kernel
theorem dX11_manyFirsts_105 : decode cX11_manyFirsts 105 = .ok (.ladd, 1) := by decide +kernel
theorem dX11_manyFirsts_106 : decode cX11_manyFirsts 106 = .ok (.iload_n 3, 1) := by decide +kernel
theorem dX11_manyFirsts_107 : decode cX11_manyFirsts 107 = .ok (.invokestatic 380, 3) := by decide +kernel
theorem dX11_manyFirsts_110 : decode cX11_manyFirsts 110 = .ok (.lstore 12, 2) := by decide +kernel
theorem dX11_manyFirsts_112 : decode cX11_manyFirsts 112 = .ok (.lload_n 1, 1) := by decide +kernel
theorem dX11_manyFirsts_113 : decode cX11_manyFirsts 113 = .ok (.ldc2_w 391, 3) := by decide +kernel
theorem dX11_manyFirsts_116 : decode cX11_manyFirsts 116 = .ok (.lrem, 1) := by decide +kernel
theorem dX11_manyFirsts_117 : decode cX11_manyFirsts 117 = .ok (.l2i, 1) := by decide +kernel
theorem dX11_manyFirsts_118 : decode cX11_manyFirsts 118 = .ok (.istore 14, 2) := by decide +kernel
theorem dX11_manyFirsts_120 : decode cX11_manyFirsts 120 = .ok (.lconst 0, 1) := by decide +kernel
theorem dX11_manyFirsts_121 : decode cX11_manyFirsts 121 = .ok (.lstore 15, 2) := by decide +kernel
theorem dX11_manyFirsts_123 : decode cX11_manyFirsts 123 = .ok (.aload_n 0, 1) := by decide +kernel
theorem dX11_manyFirsts_124 : decode cX11_manyFirsts 124 = .ok (.lconst 0, 1) := by decide +kernel
theorem dX11_manyFirsts_125 : decode cX11_manyFirsts 125 = .ok (.putfield 397, 3) := by decide +kernel
theorem dX11_manyFirsts_128 : decode cX11_manyFirsts 128 = .ok (.iconst 0, 1) := by decide +kernel
theorem dX11_manyFirsts_129 : decode cX11_manyFirsts 129 = .ok (.istore 17, 2) := by decide +kernel
theorem dX11_manyFirsts_131 : decode cX11_manyFirsts 131 = .ok (.iload 17, 2) := by decide +kernel
theorem dX11_manyFirsts_133 : decode cX11_manyFirsts 133 = .ok (.bipush 10, 2) := by decide +kernel
theorem dX11_manyFirsts_135 : decode cX11_manyFirsts 135 = .ok (.if_icmp .ge 99, 3) := by decide +kernel
theorem dX11_manyFirsts_138 : decode cX11_manyFirsts 138 = .ok (.iload 17, 2) := by decide +kernel
theorem dX11_manyFirsts_140 : decode cX11_manyFirsts 140 = .ok (.iload_n 3, 1) := by decide +kernel
theorem dX11_manyFirsts_141 : decode cX11_manyFirsts 141 = .ok (.invokestatic 401, 3) := by decide +kernel
theorem dX11_manyFirsts_144 : decode cX11_manyFirsts 144 = .ok (.iload 14, 2) := by decide +kernel
theorem dX11_manyFirsts_146 : decode cX11_manyFirsts 146 = .ok (.if_icmp .eq 6, 3) := by decide +kernel
theorem dX11_manyFirsts_149 : decode cX11_manyFirsts 149 = .ok (.goto 79, 3) := by decide +kernel
theorem dX11_manyFirsts_152 : decode cX11_manyFirsts 152 = .ok (.lload 15, 2) := by decide +kernel
theorem dX11_manyFirsts_154 : decode cX11_manyFirsts 154 = .ok (.lload 12, 2) := by decide +kernel
theorem dX11_manyFirsts_156 : decode cX11_manyFirsts 156 = .ok (.iload 17, 2) := by decide +kernel
theorem dX11_manyFirsts_158 : decode cX11_manyFirsts 158 = .ok (.invokestatic 404, 3) := by decide +kernel
theorem dX11_manyFirsts_161 : decode cX11_manyFirsts 161 = .ok (.lload 10, 2) := by decide +kernel
theorem dX11_manyFirsts_163 : decode cX11_manyFirsts 163 = .ok (.iload 17, 2) := by decide +kernel
theorem dX11_manyFirsts_165 : decode cX11_manyFirsts 165 = .ok (.invokestatic 404, 3) := by decide +kernel
theorem dX11_manyFirsts_168 : decode cX11_manyFirsts 168 = .ok (.lsub, 1) := by decide +kernel
theorem dX11_manyFirsts_169 : decode cX11_manyFirsts 169 = .ok (.ladd, 1) := by decide +kernel
theorem dX11_manyFirsts_170 : decode cX11_manyFirsts 170 = .ok (.lstore 15, 2) := by decide +kernel
theorem dX11_manyFirsts_172 : decode cX11_manyFirsts 172 = .ok (.lload 10, 2) := by decide +kernel
theorem dX11_manyFirsts_174 : decode cX11_manyFirsts 174 = .ok (.iload 17, 2) := by decide +kernel
theorem dX11_manyFirsts_176 : decode cX11_manyFirsts 176 = .ok (.i2l, 1) := by decide +kernel
theorem dX11_manyFirsts_177 : decode cX11_manyFirsts 177 = .ok (.lload 10, 2) := by decide +kernel
theorem dX11_manyFirsts_179 : decode cX11_manyFirsts 179 = .ok (.lsub, 1) := by decide +kernel
theorem dX11_manyFirsts_180 : decode cX11_manyFirsts 180 = .ok (.ldc2_w 391, 3) := by decide +kernel
theorem dX11_manyFirsts_183 : decode cX11_manyFirsts 183 = .ok (.lrem, 1) := by decide +kernel
theorem dX11_manyFirsts_184 : decode cX11_manyFirsts 184 = .ok (.ldc2_w 391, 3) := by decide +kernel
theorem dX11_manyFirsts_187 : decode cX11_manyFirsts 187 = .ok (.ladd, 1) := by decide +kernel
theorem dX11_manyFirsts_188 : decode cX11_manyFirsts 188 = .ok (.ldc2_w 391, 3) := by decide +kernel
theorem dX11_manyFirsts_191 : decode cX11_manyFirsts 191 = .ok (.lrem, 1) := by decide +kernel
theorem dX11_manyFirsts_192 : decode cX11_manyFirsts 192 = .ok (.ladd, 1) := by decide +kernel
theorem dX11_manyFirsts_193 : decode cX11_manyFirsts 193 = .ok (.lstore 18, 2) := by decide +kernel
theorem dX11_manyFirsts_195 : decode cX11_manyFirsts 195 = .ok (.lload 18, 2) := by decide +kernel
theorem dX11_manyFirsts_197 : decode cX11_manyFirsts 197 = .ok (.lload 12, 2) := by decide +kernel
theorem dX11_manyFirsts_199 : decode cX11_manyFirsts 199 = .ok (.lcmp, 1) := by decide +kernel
theorem dX11_manyFirsts_200 : decode cX11_manyFirsts 200 = .ok (.ifCond .ge 28, 3) := by decide +kernel
theorem dX11_manyFirsts_203 : decode cX11_manyFirsts 203 = .ok (.aload_n 0, 1) := by decide +kernel
theorem dX11_manyFirsts_204 : decode cX11_manyFirsts 204 = .ok (.getfield 397, 3) := by decide +kernel
theorem dX11_manyFirsts_207 : decode cX11_manyFirsts 207 = .ok (.lconst 0, 1) := by decide +kernel
theorem dX11_manyFirsts_208 : decode cX11_manyFirsts 208 = .ok (.lcmp, 1) := by decide +kernel
theorem dX11_manyFirsts_209 : decode cX11_manyFirsts 209 = .ok (.ifCond .eq 13, 3) := by decide +kernel
theorem dX11_manyFirsts_212 : decode cX11_manyFirsts 212 = .ok (.lload 18, 2) := by decide +kernel
theorem dX11_manyFirsts_214 : decode cX11_manyFirsts 214 = .ok (.aload_n 0, 1) := by decide +kernel
theorem dX11_manyFirsts_215 : decode cX11_manyFirsts 215 = .ok (.getfield 397, 3) := by decide +kernel
theorem dX11_manyFirsts_218 : decode cX11_manyFirsts 218 = .ok (.lcmp, 1) := by decide +kernel
theorem dX11_manyFirsts_219 : decode cX11_manyFirsts 219 = .ok (.ifCond .ge 9, 3) := by decide +kernel
theorem dX11_manyFirsts_222 : decode cX11_manyFirsts 222 = .ok (.aload_n 0, 1) := by decide +kernel
theorem dX11_manyFirsts_223 : decode cX11_manyFirsts 223 = .ok (.lload 18, 2) := by decide +kernel
theorem dX11_manyFirsts_225 : decode cX11_manyFirsts 225 = .ok (.putfield 397, 3) := by decide +kernel
theorem dX11_manyFirsts_228 : decode cX11_manyFirsts 228 = .ok (.iinc 17 1, 3) := by decide +kernel
theorem dX11_manyFirsts_231 : decode cX11_manyFirsts 231 = .ok (.goto (-100), 3) := by decide +kernel
theorem dX11_manyFirsts_234 : decode cX11_manyFirsts 234 = .ok (.lload 15, 2) := by decide +kernel
theorem dX11_manyFirsts_236 : decode cX11_manyFirsts 236 = .ok (.lreturn, 1) := by decide +kernel
theorem dX11_firsts_0 : decode cX11_firsts 0 = .ok (.iload_n 3, 1) := by decide +kernel
theorem dX11_firsts_1 : decode cX11_firsts 1 = .ok (.ifCond .lt 42, 3) := by decide +kernel
theorem dX11_firsts_4 : decode cX11_firsts 4 = .ok (.lload_n 1, 1) := by decide +kernel
theorem dX11_firsts_5 : decode cX11_firsts 5 = .ok (.iload_n 3, 1) := by decide +kernel
theorem dX11_firsts_6 : decode cX11_firsts 6 = .ok (.bipush 100, 2) := by decide +kernel
theorem dX11_firsts_8 : decode cX11_firsts 8 = .ok (.idiv, 1) := by decide +kernel
theorem dX11_firsts_9 : decode cX11_firsts 9 = .ok (.invokestatic 383, 3) := by decide +kernel
theorem dX11_firsts_12 : decode cX11_firsts 12 = .ok (.ifCond .eq 31, 3) := by decide +kernel
theorem dX11_firsts_15 : decode cX11_firsts 15 = .ok (.iload_n 3, 1) := by decide +kernel
theorem dX11_firsts_16 : decode cX11_firsts 16 = .ok (.bipush 100, 2) := by decide +kernel
theorem dX11_firsts_18 : decode cX11_firsts 18 = .ok (.irem, 1) := by decide +kernel
theorem dX11_firsts_19 : decode cX11_firsts 19 = .ok (.i2l, 1) := by decide +kernel
theorem dX11_firsts_20 : decode cX11_firsts 20 = .ok (.lconst 1, 1) := by decide +kernel
theorem dX11_firsts_21 : decode cX11_firsts 21 = .ok (.lload_n 1, 1) := by decide +kernel
theorem dX11_firsts_22 : decode cX11_firsts 22 = .ok (.invokestatic 393, 3) := by decide +kernel
theorem dX11_firsts_25 : decode cX11_firsts 25 = .ok (.i2l, 1) := by decide +kernel
theorem dX11_firsts_26 : decode cX11_firsts 26 = .ok (.invokestatic 113, 3) := by decide +kernel
theorem dX11_firsts_29 : decode cX11_firsts 29 = .ok (.ifCond .eq 14, 3) := by decide +kernel
theorem dX11_firsts_32 : decode cX11_firsts 32 = .ok (.iload 4, 2) := by decide +kernel
theorem dX11_firsts_34 : decode cX11_firsts 34 = .ok (.i2l, 1) := by decide +kernel
theorem dX11_firsts_35 : decode cX11_firsts 35 = .ok (.lconst 0, 1) := by decide +kernel
theorem dX11_firsts_36 : decode cX11_firsts 36 = .ok (.lconst 1, 1) := by decide +kernel
theorem dX11_firsts_37 : decode cX11_firsts 37 = .ok (.invokestatic 113, 3) := by decide +kernel
theorem dX11_firsts_40 : decode cX11_firsts 40 = .ok (.ifCond .ne 5, 3) := by decide +kernel
theorem dX11_firsts_43 : decode cX11_firsts 43 = .ok (.iconst (-1), 1) := by decide +kernel
theorem dX11_firsts_44 : decode cX11_firsts 44 = .ok (.ireturn, 1) := by decide +kernel
theorem dX11_firsts_45 : decode cX11_firsts 45 = .ok (.aload_n 0, 1) := by decide +kernel
theorem dX11_firsts_46 : decode cX11_firsts 46 = .ok (.lload_n 1, 1) := by decide +kernel
theorem dX11_firsts_47 : decode cX11_firsts 47 = .ok (.iload_n 3, 1) := by decide +kernel
theorem dX11_firsts_48 : decode cX11_firsts 48 = .ok (.bipush 100, 2) := by decide +kernel
theorem dX11_firsts_50 : decode cX11_firsts 50 = .ok (.idiv, 1) := by decide +kernel
theorem dX11_firsts_51 : decode cX11_firsts 51 = .ok (.iload_n 3, 1) := by decide +kernel
theorem dX11_firsts_52 : decode cX11_firsts 52 = .ok (.bipush 100, 2) := by decide +kernel
theorem dX11_firsts_54 : decode cX11_firsts 54 = .ok (.irem, 1) := by decide +kernel
theorem dX11_firsts_55 : decode cX11_firsts 55 = .ok (.invokevirtual 407, 3) := by decide +kernel
theorem dX11_firsts_58 : decode cX11_firsts 58 = .ok (.lstore 5, 2) := by decide +kernel
theorem dX11_firsts_60 : decode cX11_firsts 60 = .ok (.iload 4, 2) := by decide +kernel
theorem dX11_firsts_62 : decode cX11_firsts 62 = .ok (.ifCond .ne 9, 3) := by decide +kernel
theorem dX11_firsts_65 : decode cX11_firsts 65 = .ok (.lload 5, 2) := by decide +kernel
theorem dX11_firsts_67 : decode cX11_firsts 67 = .ok (.l2i, 1) := by decide +kernel
theorem dX11_firsts_68 : decode cX11_firsts 68 = .ok (.goto 8, 3) := by decide +kernel
theorem dX11_firsts_71 : decode cX11_firsts 71 = .ok (.aload_n 0, 1) := by decide +kernel
theorem dX11_firsts_72 : decode cX11_firsts 72 = .ok (.getfield 397, 3) := by decide +kernel
theorem dX11_firsts_75 : decode cX11_firsts 75 = .ok (.l2i, 1) := by decide +kernel
theorem dX11_firsts_76 : decode cX11_firsts 76 = .ok (.ireturn, 1) := by decide +kernel
theorem dX11_enough_0 : decode cX11_enough 0 = .ok (.lload_n 1, 1) := by decide +kernel
theorem dX11_enough_1 : decode cX11_enough 1 = .ok (.iload_n 3, 1) := by decide +kernel
theorem dX11_enough_2 : decode cX11_enough 2 = .ok (.invokestatic 383, 3) := by decide +kernel
theorem dX11_enough_5 : decode cX11_enough 5 = .ok (.ifCond .ne 5, 3) := by decide +kernel
theorem dX11_enough_8 : decode cX11_enough 8 = .ok (.iconst (-1), 1) := by decide +kernel
theorem dX11_enough_9 : decode cX11_enough 9 = .ok (.ireturn, 1) := by decide +kernel
theorem dX11_enough_10 : decode cX11_enough 10 = .ok (.lload_n 1, 1) := by decide +kernel
theorem dX11_enough_11 : decode cX11_enough 11 = .ok (.iload_n 3, 1) := by decide +kernel
theorem dX11_enough_12 : decode cX11_enough 12 = .ok (.invokestatic 387, 3) := by decide +kernel
theorem dX11_enough_15 : decode cX11_enough 15 = .ok (.ifCond .ne 6, 3) := by decide +kernel
theorem dX11_enough_18 : decode cX11_enough 18 = .ok (.bipush (-2), 2) := by decide +kernel
theorem dX11_enough_20 : decode cX11_enough 20 = .ok (.ireturn, 1) := by decide +kernel
theorem dX11_enough_21 : decode cX11_enough 21 = .ok (.iconst 1, 1) := by decide +kernel
theorem dX11_enough_22 : decode cX11_enough 22 = .ok (.istore 4, 2) := by decide +kernel
theorem dX11_enough_24 : decode cX11_enough 24 = .ok (.aload_n 0, 1) := by decide +kernel
theorem dX11_enough_25 : decode cX11_enough 25 = .ok (.lload_n 1, 1) := by decide +kernel
theorem dX11_enough_26 : decode cX11_enough 26 = .ok (.iload_n 3, 1) := by decide +kernel
theorem dX11_enough_27 : decode cX11_enough 27 = .ok (.iload 4, 2) := by decide +kernel
theorem dX11_enough_29 : decode cX11_enough 29 = .ok (.invokevirtual 407, 3) := by decide +kernel
theorem dX11_enough_32 : decode cX11_enough 32 = .ok (.lconst 1, 1) := by decide +kernel
theorem dX11_enough_33 : decode cX11_enough 33 = .ok (.lcmp, 1) := by decide +kernel
theorem dX11_enough_34 : decode cX11_enough 34 = .ok (.ifCond .le 9, 3) := by decide +kernel
theorem dX11_enough_37 : decode cX11_enough 37 = .ok (.iinc 4 1, 3) := by decide +kernel
theorem dX11_enough_40 : decode cX11_enough 40 = .ok (.goto (-16), 3) := by decide +kernel
theorem dX11_enough_43 : decode cX11_enough 43 = .ok (.iload 4, 2) := by decide +kernel
theorem dX11_enough_45 : decode cX11_enough 45 = .ok (.ireturn, 1) := by decide +kernel
theorem dX11_isBody_0 : decode cX11_isBody 0 = .ok (.iload_n 1, 1) := by decide +kernel
theorem dX11_isBody_1 : decode cX11_isBody 1 = .ok (.i2l, 1) := by decide +kernel
theorem dX11_isBody_2 : decode cX11_isBody 2 = .ok (.lconst 0, 1) := by decide +kernel
theorem dX11_isBody_3 : decode cX11_isBody 3 = .ok (.aload_n 0, 1) := by decide +kernel
theorem dX11_isBody_4 : decode cX11_isBody 4 = .ok (.getfield 411, 3) := by decide +kernel
theorem dX11_isBody_7 : decode cX11_isBody 7 = .ok (.iconst 1, 1) := by decide +kernel
theorem dX11_isBody_8 : decode cX11_isBody 8 = .ok (.isub, 1) := by decide +kernel
theorem dX11_isBody_9 : decode cX11_isBody 9 = .ok (.i2l, 1) := by decide +kernel
theorem dX11_isBody_10 : decode cX11_isBody 10 = .ok (.invokestatic 113, 3) := by decide +kernel
theorem dX11_isBody_13 : decode cX11_isBody 13 = .ok (.ireturn, 1) := by decide +kernel
theorem dX11_kindOf_0 : decode cX11_kindOf 0 = .ok (.aload_n 0, 1) := by decide +kernel
theorem dX11_kindOf_1 : decode cX11_kindOf 1 = .ok (.getfield 82, 3) := by decide +kernel
theorem dX11_kindOf_4 : decode cX11_kindOf 4 = .ok (.iload_n 1, 1) := by decide +kernel
theorem dX11_kindOf_5 : decode cX11_kindOf 5 = .ok (.iaload, 1) := by decide +kernel
theorem dX11_kindOf_6 : decode cX11_kindOf 6 = .ok (.ireturn, 1) := by decide +kernel
theorem dX11_body_0 : decode cX11_body 0 = .ok (.iload_n 1, 1) := by decide +kernel
theorem dX11_body_1 : decode cX11_body 1 = .ok (.i2l, 1) := by decide +kernel
theorem dX11_body_2 : decode cX11_body 2 = .ok (.lconst 0, 1) := by decide +kernel
theorem dX11_body_3 : decode cX11_body 3 = .ok (.ldc2_w 414, 3) := by decide +kernel
theorem dX11_body_6 : decode cX11_body 6 = .ok (.invokestatic 113, 3) := by decide +kernel
theorem dX11_body_9 : decode cX11_body 9 = .ok (.ifCond .ne 5, 3) := by decide +kernel
theorem dX11_body_12 : decode cX11_body 12 = .ok (.iconst (-1), 1) := by decide +kernel
theorem dX11_body_13 : decode cX11_body 13 = .ok (.ireturn, 1) := by decide +kernel
theorem dX11_body_14 : decode cX11_body 14 = .ok (.aload_n 0, 1) := by decide +kernel
theorem dX11_body_15 : decode cX11_body 15 = .ok (.getfield 411, 3) := by decide +kernel
theorem dX11_body_18 : decode cX11_body 18 = .ok (.bipush 50, 2) := by decide +kernel
theorem dX11_body_20 : decode cX11_body 20 = .ok (.if_icmp .ne 6, 3) := by decide +kernel
theorem dX11_body_23 : decode cX11_body 23 = .ok (.bipush (-3), 2) := by decide +kernel
theorem dX11_body_25 : decode cX11_body 25 = .ok (.ireturn, 1) := by decide +kernel
theorem dX11_body_26 : decode cX11_body 26 = .ok (.aload_n 0, 1) := by decide +kernel
theorem dX11_body_27 : decode cX11_body 27 = .ok (.getfield 82, 3) := by decide +kernel
theorem dX11_body_30 : decode cX11_body 30 = .ok (.aload_n 0, 1) := by decide +kernel
theorem dX11_body_31 : decode cX11_body 31 = .ok (.getfield 411, 3) := by decide +kernel
theorem dX11_body_34 : decode cX11_body 34 = .ok (.iload_n 1, 1) := by decide +kernel
theorem dX11_body_35 : decode cX11_body 35 = .ok (.iastore, 1) := by decide +kernel
theorem dX11_body_36 : decode cX11_body 36 = .ok (.aload_n 0, 1) := by decide +kernel
theorem dX11_body_37 : decode cX11_body 37 = .ok (.dup, 1) := by decide +kernel
theorem dX11_body_38 : decode cX11_body 38 = .ok (.getfield 411, 3) := by decide +kernel
theorem dX11_body_41 : decode cX11_body 41 = .ok (.iconst 1, 1) := by decide +kernel
theorem dX11_body_42 : decode cX11_body 42 = .ok (.iadd, 1) := by decide +kernel
theorem dX11_body_43 : decode cX11_body 43 = .ok (.putfield 411, 3) := by decide +kernel
theorem dX11_body_46 : decode cX11_body 46 = .ok (.aload_n 0, 1) := by decide +kernel
theorem dX11_body_47 : decode cX11_body 47 = .ok (.getfield 411, 3) := by decide +kernel
theorem dX11_body_50 : decode cX11_body 50 = .ok (.iconst 1, 1) := by decide +kernel
theorem dX11_body_51 : decode cX11_body 51 = .ok (.isub, 1) := by decide +kernel
theorem dX11_body_52 : decode cX11_body 52 = .ok (.ireturn, 1) := by decide +kernel
theorem dX11_above_0 : decode cX11_above 0 = .ok (.iload_n 0, 1) := by decide +kernel
theorem dX11_above_1 : decode cX11_above 1 = .ok (.iconst 3, 1) := by decide +kernel
theorem dX11_above_2 : decode cX11_above 2 = .ok (.if_icmp .ne 7, 3) := by decide +kernel
theorem dX11_above_5 : decode cX11_above 5 = .ok (.iconst 2, 1) := by decide +kernel
theorem dX11_above_6 : decode cX11_above 6 = .ok (.goto 24, 3) := by decide +kernel
theorem dX11_above_9 : decode cX11_above 9 = .ok (.iload_n 0, 1) := by decide +kernel
theorem dX11_above_10 : decode cX11_above 10 = .ok (.iconst 5, 1) := by decide +kernel
theorem dX11_above_11 : decode cX11_above 11 = .ok (.if_icmp .ne 7, 3) := by decide +kernel
theorem dX11_above_14 : decode cX11_above 14 = .ok (.iconst 1, 1) := by decide +kernel
theorem dX11_above_15 : decode cX11_above 15 = .ok (.goto 15, 3) := by decide +kernel
theorem dX11_above_18 : decode cX11_above 18 = .ok (.iload_n 0, 1) := by decide +kernel
theorem dX11_above_19 : decode cX11_above 19 = .ok (.bipush 7, 2) := by decide +kernel
theorem dX11_above_21 : decode cX11_above 21 = .ok (.if_icmp .ne 8, 3) := by decide +kernel
theorem dX11_above_24 : decode cX11_above 24 = .ok (.bipush 6, 2) := by decide +kernel
theorem dX11_above_26 : decode cX11_above 26 = .ok (.goto 4, 3) := by decide +kernel
theorem dX11_above_29 : decode cX11_above 29 = .ok (.iconst 0, 1) := by decide +kernel
theorem dX11_above_30 : decode cX11_above 30 = .ok (.ireturn, 1) := by decide +kernel
theorem dX11_begins_0 : decode cX11_begins 0 = .ok (.aload_n 0, 1) := by decide +kernel
theorem dX11_begins_1 : decode cX11_begins 1 = .ok (.getfield 416, 3) := by decide +kernel
theorem dX11_begins_4 : decode cX11_begins 4 = .ok (.bipush 24, 2) := by decide +kernel
theorem dX11_begins_6 : decode cX11_begins 6 = .ok (.if_icmp .ge 13, 3) := by decide +kernel
theorem dX11_begins_9 : decode cX11_begins 9 = .ok (.aload_n 0, 1) := by decide +kernel
theorem dX11_begins_10 : decode cX11_begins 10 = .ok (.getfield 85, 3) := by decide +kernel
theorem dX11_begins_13 : decode cX11_begins 13 = .ok (.aload_n 0, 1) := by decide +kernel
theorem dX11_begins_14 : decode cX11_begins 14 = .ok (.getfield 416, 3) := by decide +kernel
theorem dX11_begins_17 : decode cX11_begins 17 = .ok (.iload_n 1, 1) := by decide +kernel
theorem dX11_begins_18 : decode cX11_begins 18 = .ok (.iastore, 1) := by decide +kernel
theorem dX11_begins_19 : decode cX11_begins 19 = .ok (.aload_n 0, 1) := by decide +kernel
theorem dX11_begins_20 : decode cX11_begins 20 = .ok (.dup, 1) := by decide +kernel
theorem dX11_begins_21 : decode cX11_begins 21 = .ok (.getfield 416, 3) := by decide +kernel
theorem dX11_begins_24 : decode cX11_begins 24 = .ok (.iconst 1, 1) := by decide +kernel
theorem dX11_begins_25 : decode cX11_begins 25 = .ok (.iadd, 1) := by decide +kernel
theorem dX11_begins_26 : decode cX11_begins 26 = .ok (.putfield 416, 3) := by decide +kernel
theorem dX11_begins_29 : decode cX11_begins 29 = .ok (.return_, 1) := by decide +kernel
theorem dX11_costsAs_0 : decode cX11_costsAs 0 = .ok (.iload_n 1, 1) := by decide +kernel
theorem dX11_costsAs_1 : decode cX11_costsAs 1 = .ok (.iconst 5, 1) := by decide +kernel
theorem dX11_costsAs_2 : decode cX11_costsAs 2 = .ok (.if_icmp .ne 18, 3) := by decide +kernel
theorem dX11_costsAs_5 : decode cX11_costsAs 5 = .ok (.aload_n 0, 1) := by decide +kernel
theorem dX11_costsAs_6 : decode cX11_costsAs 6 = .ok (.bipush 60, 2) := by decide +kernel
theorem dX11_costsAs_8 : decode cX11_costsAs 8 = .ok (.invokevirtual 419, 3) := by decide +kernel
theorem dX11_costsAs_11 : decode cX11_costsAs 11 = .ok (.aload_n 0, 1) := by decide +kernel
theorem dX11_costsAs_12 : decode cX11_costsAs 12 = .ok (.iconst 1, 1) := by decide +kernel
theorem dX11_costsAs_13 : decode cX11_costsAs 13 = .ok (.iload_n 2, 1) := by decide +kernel
theorem dX11_costsAs_14 : decode cX11_costsAs 14 = .ok (.iconst 1, 1) := by decide +kernel
theorem dX11_costsAs_15 : decode cX11_costsAs 15 = .ok (.iadd, 1) := by decide +kernel
theorem dX11_costsAs_16 : decode cX11_costsAs 16 = .ok (.invokevirtual 422, 3) := by decide +kernel
theorem dX11_costsAs_19 : decode cX11_costsAs 19 = .ok (.ireturn, 1) := by decide +kernel
theorem dX11_costsAs_20 : decode cX11_costsAs 20 = .ok (.iload_n 1, 1) := by decide +kernel
theorem dX11_costsAs_21 : decode cX11_costsAs 21 = .ok (.iconst 1, 1) := by decide +kernel
theorem dX11_costsAs_22 : decode cX11_costsAs 22 = .ok (.if_icmp .ne 18, 3) := by decide +kernel
theorem dX11_costsAs_25 : decode cX11_costsAs 25 = .ok (.aload_n 0, 1) := by decide +kernel
theorem dX11_costsAs_26 : decode cX11_costsAs 26 = .ok (.bipush 20, 2) := by decide +kernel
theorem dX11_costsAs_28 : decode cX11_costsAs 28 = .ok (.invokevirtual 419, 3) := by decide +kernel
theorem dX11_costsAs_31 : decode cX11_costsAs 31 = .ok (.aload_n 0, 1) := by decide +kernel
theorem dX11_costsAs_32 : decode cX11_costsAs 32 = .ok (.iconst 0, 1) := by decide +kernel
theorem dX11_costsAs_33 : decode cX11_costsAs 33 = .ok (.iload_n 2, 1) := by decide +kernel
theorem dX11_costsAs_34 : decode cX11_costsAs 34 = .ok (.invokevirtual 422, 3) := by decide +kernel
theorem dX11_costsAs_37 : decode cX11_costsAs 37 = .ok (.iconst 3, 1) := by decide +kernel
theorem dX11_costsAs_38 : decode cX11_costsAs 38 = .ok (.iadd, 1) := by decide +kernel
theorem dX11_costsAs_39 : decode cX11_costsAs 39 = .ok (.ireturn, 1) := by decide +kernel
theorem dX11_costsAs_40 : decode cX11_costsAs 40 = .ok (.aload_n 0, 1) := by decide +kernel
theorem dX11_costsAs_41 : decode cX11_costsAs 41 = .ok (.iconst 1, 1) := by decide +kernel
theorem dX11_costsAs_42 : decode cX11_costsAs 42 = .ok (.invokevirtual 419, 3) := by decide +kernel
theorem dX11_costsAs_45 : decode cX11_costsAs 45 = .ok (.iload_n 2, 1) := by decide +kernel
theorem dX11_costsAs_46 : decode cX11_costsAs 46 = .ok (.aload_n 0, 1) := by decide +kernel
theorem dX11_costsAs_47 : decode cX11_costsAs 47 = .ok (.getfield 425, 3) := by decide +kernel
theorem dX11_costsAs_50 : decode cX11_costsAs 50 = .ok (.iadd, 1) := by decide +kernel
theorem dX11_costsAs_51 : decode cX11_costsAs 51 = .ok (.ireturn, 1) := by decide +kernel
theorem dX11_keepsAs_0 : decode cX11_keepsAs 0 = .ok (.iload_n 1, 1) := by decide +kernel
theorem dX11_keepsAs_1 : decode cX11_keepsAs 1 = .ok (.iconst 2, 1) := by decide +kernel
theorem dX11_keepsAs_2 : decode cX11_keepsAs 2 = .ok (.if_icmp .eq 8, 3) := by decide +kernel
theorem dX11_keepsAs_5 : decode cX11_keepsAs 5 = .ok (.iload_n 1, 1) := by decide +kernel
theorem dX11_keepsAs_6 : decode cX11_keepsAs 6 = .ok (.iconst 3, 1) := by decide +kernel
theorem dX11_keepsAs_7 : decode cX11_keepsAs 7 = .ok (.if_icmp .ne 17, 3) := by decide +kernel
theorem dX11_keepsAs_10 : decode cX11_keepsAs 10 = .ok (.aload_n 0, 1) := by decide +kernel
theorem dX11_keepsAs_11 : decode cX11_keepsAs 11 = .ok (.bipush 30, 2) := by decide +kernel
theorem dX11_keepsAs_13 : decode cX11_keepsAs 13 = .ok (.invokevirtual 419, 3) := by decide +kernel
theorem dX11_keepsAs_16 : decode cX11_keepsAs 16 = .ok (.aload_n 0, 1) := by decide +kernel
theorem dX11_keepsAs_17 : decode cX11_keepsAs 17 = .ok (.iconst 0, 1) := by decide +kernel
theorem dX11_keepsAs_18 : decode cX11_keepsAs 18 = .ok (.iload_n 2, 1) := by decide +kernel
theorem dX11_keepsAs_19 : decode cX11_keepsAs 19 = .ok (.invokevirtual 428, 3) := by decide +kernel
theorem dX11_keepsAs_22 : decode cX11_keepsAs 22 = .ok (.ineg, 1) := by decide +kernel
theorem dX11_keepsAs_23 : decode cX11_keepsAs 23 = .ok (.ireturn, 1) := by decide +kernel
theorem dX11_keepsAs_24 : decode cX11_keepsAs 24 = .ok (.iload_n 1, 1) := by decide +kernel
theorem dX11_keepsAs_25 : decode cX11_keepsAs 25 = .ok (.bipush 7, 2) := by decide +kernel
theorem dX11_keepsAs_27 : decode cX11_keepsAs 27 = .ok (.if_icmp .ne 19, 3) := by decide +kernel
theorem dX11_keepsAs_30 : decode cX11_keepsAs 30 = .ok (.aload_n 0, 1) := by decide +kernel
theorem dX11_keepsAs_31 : decode cX11_keepsAs 31 = .ok (.bipush 80, 2) := by decide +kernel
theorem dX11_keepsAs_33 : decode cX11_keepsAs 33 = .ok (.invokevirtual 419, 3) := by decide +kernel
theorem dX11_keepsAs_36 : decode cX11_keepsAs 36 = .ok (.aload_n 0, 1) := by decide +kernel
theorem dX11_keepsAs_37 : decode cX11_keepsAs 37 = .ok (.bipush 6, 2) := by decide +kernel
theorem dX11_keepsAs_39 : decode cX11_keepsAs 39 = .ok (.iload_n 2, 1) := by decide +kernel
theorem dX11_keepsAs_40 : decode cX11_keepsAs 40 = .ok (.invokevirtual 428, 3) := by decide +kernel
theorem dX11_keepsAs_43 : decode cX11_keepsAs 43 = .ok (.iconst 2, 1) := by decide +kernel
theorem dX11_keepsAs_44 : decode cX11_keepsAs 44 = .ok (.imul, 1) := by decide +kernel
theorem dX11_keepsAs_45 : decode cX11_keepsAs 45 = .ok (.ireturn, 1) := by decide +kernel
theorem dX11_keepsAs_46 : decode cX11_keepsAs 46 = .ok (.aload_n 0, 1) := by decide +kernel
theorem dX11_keepsAs_47 : decode cX11_keepsAs 47 = .ok (.bipush 10, 2) := by decide +kernel
theorem dX11_keepsAs_49 : decode cX11_keepsAs 49 = .ok (.invokevirtual 419, 3) := by decide +kernel
theorem dX11_keepsAs_52 : decode cX11_keepsAs 52 = .ok (.aload_n 0, 1) := by decide +kernel
theorem dX11_keepsAs_53 : decode cX11_keepsAs 53 = .ok (.aload_n 0, 1) := by decide +kernel
theorem dX11_keepsAs_54 : decode cX11_keepsAs 54 = .ok (.getfield 431, 3) := by decide +kernel
theorem dX11_keepsAs_57 : decode cX11_keepsAs 57 = .ok (.iload_n 2, 1) := by decide +kernel
theorem dX11_keepsAs_58 : decode cX11_keepsAs 58 = .ok (.invokevirtual 422, 3) := by decide +kernel
theorem dX11_keepsAs_61 : decode cX11_keepsAs 61 = .ok (.iconst 2, 1) := by decide +kernel
theorem dX11_keepsAs_62 : decode cX11_keepsAs 62 = .ok (.imul, 1) := by decide +kernel
theorem dX11_keepsAs_63 : decode cX11_keepsAs 63 = .ok (.ireturn, 1) := by decide +kernel
theorem dX11_slipsAs_0 : decode cX11_slipsAs 0 = .ok (.iload_n 1, 1) := by decide +kernel
theorem dX11_slipsAs_1 : decode cX11_slipsAs 1 = .ok (.iconst 3, 1) := by decide +kernel
theorem dX11_slipsAs_2 : decode cX11_slipsAs 2 = .ok (.if_icmp .ne 18, 3) := by decide +kernel
theorem dX11_slipsAs_5 : decode cX11_slipsAs 5 = .ok (.aload_n 0, 1) := by decide +kernel
theorem dX11_slipsAs_6 : decode cX11_slipsAs 6 = .ok (.bipush 40, 2) := by decide +kernel
theorem dX11_slipsAs_8 : decode cX11_slipsAs 8 = .ok (.invokevirtual 419, 3) := by decide +kernel
theorem dX11_slipsAs_11 : decode cX11_slipsAs 11 = .ok (.aload_n 0, 1) := by decide +kernel
theorem dX11_slipsAs_12 : decode cX11_slipsAs 12 = .ok (.iconst 2, 1) := by decide +kernel
theorem dX11_slipsAs_13 : decode cX11_slipsAs 13 = .ok (.iload_n 2, 1) := by decide +kernel
theorem dX11_slipsAs_14 : decode cX11_slipsAs 14 = .ok (.invokevirtual 434, 3) := by decide +kernel
theorem dX11_slipsAs_17 : decode cX11_slipsAs 17 = .ok (.iconst 3, 1) := by decide +kernel
theorem dX11_slipsAs_18 : decode cX11_slipsAs 18 = .ok (.imul, 1) := by decide +kernel
theorem dX11_slipsAs_19 : decode cX11_slipsAs 19 = .ok (.ireturn, 1) := by decide +kernel
theorem dX11_slipsAs_20 : decode cX11_slipsAs 20 = .ok (.iload_n 1, 1) := by decide +kernel
theorem dX11_slipsAs_21 : decode cX11_slipsAs 21 = .ok (.iconst 5, 1) := by decide +kernel
theorem dX11_slipsAs_22 : decode cX11_slipsAs 22 = .ok (.if_icmp .ne 28, 3) := by decide +kernel
theorem dX11_slipsAs_25 : decode cX11_slipsAs 25 = .ok (.aload_n 0, 1) := by decide +kernel
theorem dX11_slipsAs_26 : decode cX11_slipsAs 26 = .ok (.bipush 61, 2) := by decide +kernel
theorem dX11_slipsAs_28 : decode cX11_slipsAs 28 = .ok (.invokevirtual 419, 3) := by decide +kernel
theorem dX11_slipsAs_31 : decode cX11_slipsAs 31 = .ok (.aload_n 0, 1) := by decide +kernel
theorem dX11_slipsAs_32 : decode cX11_slipsAs 32 = .ok (.iconst 1, 1) := by decide +kernel
theorem dX11_slipsAs_33 : decode cX11_slipsAs 33 = .ok (.iload_n 2, 1) := by decide +kernel
theorem dX11_slipsAs_34 : decode cX11_slipsAs 34 = .ok (.invokevirtual 434, 3) := by decide +kernel
theorem dX11_slipsAs_37 : decode cX11_slipsAs 37 = .ok (.istore_n 3, 1) := by decide +kernel
theorem dX11_slipsAs_38 : decode cX11_slipsAs 38 = .ok (.iload_n 3, 1) := by decide +kernel
theorem dX11_slipsAs_39 : decode cX11_slipsAs 39 = .ok (.aload_n 0, 1) := by decide +kernel
theorem dX11_slipsAs_40 : decode cX11_slipsAs 40 = .ok (.aload_n 0, 1) := by decide +kernel
theorem dX11_slipsAs_41 : decode cX11_slipsAs 41 = .ok (.getfield 431, 3) := by decide +kernel
theorem dX11_slipsAs_44 : decode cX11_slipsAs 44 = .ok (.iconst 2, 1) := by decide +kernel
theorem dX11_slipsAs_45 : decode cX11_slipsAs 45 = .ok (.invokevirtual 422, 3) := by decide +kernel
theorem dX11_slipsAs_48 : decode cX11_slipsAs 48 = .ok (.iadd, 1) := by decide +kernel
theorem dX11_slipsAs_49 : decode cX11_slipsAs 49 = .ok (.ireturn, 1) := by decide +kernel
theorem dX11_slipsAs_50 : decode cX11_slipsAs 50 = .ok (.iload_n 1, 1) := by decide +kernel
theorem dX11_slipsAs_51 : decode cX11_slipsAs 51 = .ok (.bipush 6, 2) := by decide +kernel
theorem dX11_slipsAs_53 : decode cX11_slipsAs 53 = .ok (.if_icmp .eq 9, 3) := by decide +kernel
theorem dX11_slipsAs_56 : decode cX11_slipsAs 56 = .ok (.iload_n 1, 1) := by decide +kernel
theorem dX11_slipsAs_57 : decode cX11_slipsAs 57 = .ok (.bipush 7, 2) := by decide +kernel
theorem dX11_slipsAs_59 : decode cX11_slipsAs 59 = .ok (.if_icmp .ne 18, 3) := by decide +kernel
theorem dX11_slipsAs_62 : decode cX11_slipsAs 62 = .ok (.aload_n 0, 1) := by decide +kernel
theorem dX11_slipsAs_63 : decode cX11_slipsAs 63 = .ok (.bipush 70, 2) := by decide +kernel
theorem dX11_slipsAs_65 : decode cX11_slipsAs 65 = .ok (.invokevirtual 419, 3) := by decide +kernel
theorem dX11_slipsAs_68 : decode cX11_slipsAs 68 = .ok (.aload_n 0, 1) := by decide +kernel
theorem dX11_slipsAs_69 : decode cX11_slipsAs 69 = .ok (.iconst 0, 1) := by decide +kernel
theorem dX11_slipsAs_70 : decode cX11_slipsAs 70 = .ok (.iload_n 2, 1) := by decide +kernel
theorem dX11_slipsAs_71 : decode cX11_slipsAs 71 = .ok (.invokevirtual 434, 3) := by decide +kernel
theorem dX11_slipsAs_74 : decode cX11_slipsAs 74 = .ok (.iconst 1, 1) := by decide +kernel
theorem dX11_slipsAs_75 : decode cX11_slipsAs 75 = .ok (.isub, 1) := by decide +kernel
theorem dX11_slipsAs_76 : decode cX11_slipsAs 76 = .ok (.ireturn, 1) := by decide +kernel
theorem dX11_slipsAs_77 : decode cX11_slipsAs 77 = .ok (.aload_n 0, 1) := by decide +kernel
theorem dX11_slipsAs_78 : decode cX11_slipsAs 78 = .ok (.bipush 11, 2) := by decide +kernel
theorem dX11_slipsAs_80 : decode cX11_slipsAs 80 = .ok (.invokevirtual 419, 3) := by decide +kernel
theorem dX11_slipsAs_83 : decode cX11_slipsAs 83 = .ok (.iload_n 2, 1) := by decide +kernel
theorem dX11_slipsAs_84 : decode cX11_slipsAs 84 = .ok (.aload_n 0, 1) := by decide +kernel
theorem dX11_slipsAs_85 : decode cX11_slipsAs 85 = .ok (.getfield 425, 3) := by decide +kernel
theorem dX11_slipsAs_88 : decode cX11_slipsAs 88 = .ok (.ixor, 1) := by decide +kernel
theorem dX11_slipsAs_89 : decode cX11_slipsAs 89 = .ok (.ireturn, 1) := by decide +kernel
theorem dX11_tellsAs_0 : decode cX11_tellsAs 0 = .ok (.iload_n 1, 1) := by decide +kernel
theorem dX11_tellsAs_1 : decode cX11_tellsAs 1 = .ok (.iconst 4, 1) := by decide +kernel
theorem dX11_tellsAs_2 : decode cX11_tellsAs 2 = .ok (.if_icmp .ne 18, 3) := by decide +kernel
theorem dX11_tellsAs_5 : decode cX11_tellsAs 5 = .ok (.aload_n 0, 1) := by decide +kernel
theorem dX11_tellsAs_6 : decode cX11_tellsAs 6 = .ok (.bipush 50, 2) := by decide +kernel
theorem dX11_tellsAs_8 : decode cX11_tellsAs 8 = .ok (.invokevirtual 419, 3) := by decide +kernel
theorem dX11_tellsAs_11 : decode cX11_tellsAs 11 = .ok (.aload_n 0, 1) := by decide +kernel
theorem dX11_tellsAs_12 : decode cX11_tellsAs 12 = .ok (.iconst 0, 1) := by decide +kernel
theorem dX11_tellsAs_13 : decode cX11_tellsAs 13 = .ok (.iload_n 2, 1) := by decide +kernel
theorem dX11_tellsAs_14 : decode cX11_tellsAs 14 = .ok (.invokevirtual 437, 3) := by decide +kernel
theorem dX11_tellsAs_17 : decode cX11_tellsAs 17 = .ok (.iconst 5, 1) := by decide +kernel
theorem dX11_tellsAs_18 : decode cX11_tellsAs 18 = .ok (.ixor, 1) := by decide +kernel
theorem dX11_tellsAs_19 : decode cX11_tellsAs 19 = .ok (.ireturn, 1) := by decide +kernel
theorem dX11_tellsAs_20 : decode cX11_tellsAs 20 = .ok (.iload_n 1, 1) := by decide +kernel
theorem dX11_tellsAs_21 : decode cX11_tellsAs 21 = .ok (.bipush 7, 2) := by decide +kernel
theorem dX11_tellsAs_23 : decode cX11_tellsAs 23 = .ok (.if_icmp .ne 29, 3) := by decide +kernel
theorem dX11_tellsAs_26 : decode cX11_tellsAs 26 = .ok (.aload_n 0, 1) := by decide +kernel
theorem dX11_tellsAs_27 : decode cX11_tellsAs 27 = .ok (.bipush 81, 2) := by decide +kernel
theorem dX11_tellsAs_29 : decode cX11_tellsAs 29 = .ok (.invokevirtual 419, 3) := by decide +kernel
theorem dX11_tellsAs_32 : decode cX11_tellsAs 32 = .ok (.aload_n 0, 1) := by decide +kernel
theorem dX11_tellsAs_33 : decode cX11_tellsAs 33 = .ok (.bipush 6, 2) := by decide +kernel
theorem dX11_tellsAs_35 : decode cX11_tellsAs 35 = .ok (.iload_n 2, 1) := by decide +kernel
theorem dX11_tellsAs_36 : decode cX11_tellsAs 36 = .ok (.invokevirtual 437, 3) := by decide +kernel
theorem dX11_tellsAs_39 : decode cX11_tellsAs 39 = .ok (.istore_n 3, 1) := by decide +kernel
theorem dX11_tellsAs_40 : decode cX11_tellsAs 40 = .ok (.iload_n 3, 1) := by decide +kernel
theorem dX11_tellsAs_41 : decode cX11_tellsAs 41 = .ok (.aload_n 0, 1) := by decide +kernel
theorem dX11_tellsAs_42 : decode cX11_tellsAs 42 = .ok (.aload_n 0, 1) := by decide +kernel
theorem dX11_tellsAs_43 : decode cX11_tellsAs 43 = .ok (.getfield 431, 3) := by decide +kernel
theorem dX11_tellsAs_46 : decode cX11_tellsAs 46 = .ok (.iconst 2, 1) := by decide +kernel
theorem dX11_tellsAs_47 : decode cX11_tellsAs 47 = .ok (.invokevirtual 434, 3) := by decide +kernel
theorem dX11_tellsAs_50 : decode cX11_tellsAs 50 = .ok (.isub, 1) := by decide +kernel
theorem dX11_tellsAs_51 : decode cX11_tellsAs 51 = .ok (.ireturn, 1) := by decide +kernel
theorem dX11_tellsAs_52 : decode cX11_tellsAs 52 = .ok (.aload_n 0, 1) := by decide +kernel
theorem dX11_tellsAs_53 : decode cX11_tellsAs 53 = .ok (.iconst 2, 1) := by decide +kernel
theorem dX11_tellsAs_54 : decode cX11_tellsAs 54 = .ok (.invokevirtual 419, 3) := by decide +kernel
theorem dX11_tellsAs_57 : decode cX11_tellsAs 57 = .ok (.aload_n 0, 1) := by decide +kernel
theorem dX11_tellsAs_58 : decode cX11_tellsAs 58 = .ok (.aload_n 0, 1) := by decide +kernel
theorem dX11_tellsAs_59 : decode cX11_tellsAs 59 = .ok (.getfield 431, 3) := by decide +kernel
theorem dX11_tellsAs_62 : decode cX11_tellsAs 62 = .ok (.iload_n 2, 1) := by decide +kernel
theorem dX11_tellsAs_63 : decode cX11_tellsAs 63 = .ok (.invokevirtual 428, 3) := by decide +kernel
theorem dX11_tellsAs_66 : decode cX11_tellsAs 66 = .ok (.istore_n 3, 1) := by decide +kernel
theorem dX11_tellsAs_67 : decode cX11_tellsAs 67 = .ok (.iload_n 3, 1) := by decide +kernel
theorem dX11_tellsAs_68 : decode cX11_tellsAs 68 = .ok (.aload_n 0, 1) := by decide +kernel
theorem dX11_tellsAs_69 : decode cX11_tellsAs 69 = .ok (.aload_n 0, 1) := by decide +kernel
theorem dX11_tellsAs_70 : decode cX11_tellsAs 70 = .ok (.getfield 431, 3) := by decide +kernel
theorem dX11_tellsAs_73 : decode cX11_tellsAs 73 = .ok (.iconst 1, 1) := by decide +kernel
theorem dX11_tellsAs_74 : decode cX11_tellsAs 74 = .ok (.invokevirtual 434, 3) := by decide +kernel
theorem dX11_tellsAs_77 : decode cX11_tellsAs 77 = .ok (.isub, 1) := by decide +kernel
theorem dX11_tellsAs_78 : decode cX11_tellsAs 78 = .ok (.ireturn, 1) := by decide +kernel
theorem dX11_act_0 : decode cX11_act 0 = .ok (.aload_n 0, 1) := by decide +kernel
theorem dX11_act_1 : decode cX11_act 1 = .ok (.iconst 0, 1) := by decide +kernel
theorem dX11_act_2 : decode cX11_act 2 = .ok (.putfield 416, 3) := by decide +kernel
theorem dX11_act_5 : decode cX11_act 5 = .ok (.aload_n 0, 1) := by decide +kernel
theorem dX11_act_6 : decode cX11_act 6 = .ok (.iload_n 1, 1) := by decide +kernel
theorem dX11_act_7 : decode cX11_act 7 = .ok (.invokevirtual 440, 3) := by decide +kernel
theorem dX11_act_10 : decode cX11_act 10 = .ok (.ifCond .ne 5, 3) := by decide +kernel
theorem dX11_act_13 : decode cX11_act 13 = .ok (.iconst 0, 1) := by decide +kernel
theorem dX11_act_14 : decode cX11_act 14 = .ok (.ireturn, 1) := by decide +kernel
theorem dX11_act_15 : decode cX11_act 15 = .ok (.aload_n 0, 1) := by decide +kernel
theorem dX11_act_16 : decode cX11_act 16 = .ok (.aload_n 0, 1) := by decide +kernel
theorem dX11_act_17 : decode cX11_act 17 = .ok (.getfield 82, 3) := by decide +kernel
theorem dX11_act_20 : decode cX11_act 20 = .ok (.iload_n 1, 1) := by decide +kernel
theorem dX11_act_21 : decode cX11_act 21 = .ok (.iaload, 1) := by decide +kernel
theorem dX11_act_22 : decode cX11_act 22 = .ok (.putfield 431, 3) := by decide +kernel
theorem dX11_act_25 : decode cX11_act 25 = .ok (.aload_n 0, 1) := by decide +kernel
theorem dX11_act_26 : decode cX11_act 26 = .ok (.iload_n 1, 1) := by decide +kernel
theorem dX11_act_27 : decode cX11_act 27 = .ok (.putfield 425, 3) := by decide +kernel
theorem dX11_act_30 : decode cX11_act 30 = .ok (.iload_n 2, 1) := by decide +kernel
theorem dX11_act_31 : decode cX11_act 31 = .ok (.tableswitch 69 0 3 #[29, 39, 49, 59], 29) := by decide +kernel
theorem dX11_act_60 : decode cX11_act 60 = .ok (.aload_n 0, 1) := by decide +kernel
theorem dX11_act_61 : decode cX11_act 61 = .ok (.aload_n 0, 1) := by decide +kernel
theorem dX11_act_62 : decode cX11_act 62 = .ok (.getfield 431, 3) := by decide +kernel
theorem dX11_act_65 : decode cX11_act 65 = .ok (.iload_n 3, 1) := by decide +kernel
theorem dX11_act_66 : decode cX11_act 66 = .ok (.invokevirtual 422, 3) := by decide +kernel
theorem dX11_act_69 : decode cX11_act 69 = .ok (.ireturn, 1) := by decide +kernel
theorem dX11_act_70 : decode cX11_act 70 = .ok (.aload_n 0, 1) := by decide +kernel
theorem dX11_act_71 : decode cX11_act 71 = .ok (.aload_n 0, 1) := by decide +kernel
theorem dX11_act_72 : decode cX11_act 72 = .ok (.getfield 431, 3) := by decide +kernel
theorem dX11_act_75 : decode cX11_act 75 = .ok (.iload_n 3, 1) := by decide +kernel
theorem dX11_act_76 : decode cX11_act 76 = .ok (.invokevirtual 428, 3) := by decide +kernel
theorem dX11_act_79 : decode cX11_act 79 = .ok (.ireturn, 1) := by decide +kernel
theorem dX11_act_80 : decode cX11_act 80 = .ok (.aload_n 0, 1) := by decide +kernel
theorem dX11_act_81 : decode cX11_act 81 = .ok (.aload_n 0, 1) := by decide +kernel
theorem dX11_act_82 : decode cX11_act 82 = .ok (.getfield 431, 3) := by decide +kernel
theorem dX11_act_85 : decode cX11_act 85 = .ok (.iload_n 3, 1) := by decide +kernel
theorem dX11_act_86 : decode cX11_act 86 = .ok (.invokevirtual 434, 3) := by decide +kernel
theorem dX11_act_89 : decode cX11_act 89 = .ok (.ireturn, 1) := by decide +kernel
theorem dX11_act_90 : decode cX11_act 90 = .ok (.aload_n 0, 1) := by decide +kernel
theorem dX11_act_91 : decode cX11_act 91 = .ok (.aload_n 0, 1) := by decide +kernel
theorem dX11_act_92 : decode cX11_act 92 = .ok (.getfield 431, 3) := by decide +kernel
theorem dX11_act_95 : decode cX11_act 95 = .ok (.iload_n 3, 1) := by decide +kernel
theorem dX11_act_96 : decode cX11_act 96 = .ok (.invokevirtual 437, 3) := by decide +kernel
theorem dX11_act_99 : decode cX11_act 99 = .ok (.ireturn, 1) := by decide +kernel
theorem dX11_act_100 : decode cX11_act 100 = .ok (.iconst 0, 1) := by decide +kernel
theorem dX11_act_101 : decode cX11_act 101 = .ok (.ireturn, 1) := by decide +kernel
theorem dX11_trace_0 : decode cX11_trace 0 = .ok (.iload_n 1, 1) := by decide +kernel
theorem dX11_trace_1 : decode cX11_trace 1 = .ok (.ifCond .lt 26, 3) := by decide +kernel
theorem dX11_trace_4 : decode cX11_trace 4 = .ok (.iload_n 1, 1) := by decide +kernel
theorem dX11_trace_5 : decode cX11_trace 5 = .ok (.aload_n 0, 1) := by decide +kernel
theorem dX11_trace_6 : decode cX11_trace 6 = .ok (.getfield 416, 3) := by decide +kernel
theorem dX11_trace_9 : decode cX11_trace 9 = .ok (.if_icmp .ge 18, 3) := by decide +kernel
theorem dX11_trace_12 : decode cX11_trace 12 = .ok (.iload_n 1, 1) := by decide +kernel
theorem dX11_trace_13 : decode cX11_trace 13 = .ok (.bipush 24, 2) := by decide +kernel
theorem dX11_trace_15 : decode cX11_trace 15 = .ok (.if_icmp .ge 12, 3) := by decide +kernel
theorem dX11_trace_18 : decode cX11_trace 18 = .ok (.aload_n 0, 1) := by decide +kernel
theorem dX11_trace_19 : decode cX11_trace 19 = .ok (.getfield 85, 3) := by decide +kernel
theorem dX11_trace_22 : decode cX11_trace 22 = .ok (.iload_n 1, 1) := by decide +kernel
theorem dX11_trace_23 : decode cX11_trace 23 = .ok (.iaload, 1) := by decide +kernel
theorem dX11_trace_24 : decode cX11_trace 24 = .ok (.goto 4, 3) := by decide +kernel
theorem dX11_trace_27 : decode cX11_trace 27 = .ok (.iconst (-1), 1) := by decide +kernel
theorem dX11_trace_28 : decode cX11_trace 28 = .ok (.ireturn, 1) := by decide +kernel
theorem dX11_isShelf_0 : decode cX11_isShelf 0 = .ok (.iload_n 0, 1) := by decide +kernel
theorem dX11_isShelf_1 : decode cX11_isShelf 1 = .ok (.i2l, 1) := by decide +kernel
theorem dX11_isShelf_2 : decode cX11_isShelf 2 = .ok (.lconst 0, 1) := by decide +kernel
theorem dX11_isShelf_3 : decode cX11_isShelf 3 = .ok (.ldc2_w 443, 3) := by decide +kernel
theorem dX11_isShelf_6 : decode cX11_isShelf 6 = .ok (.invokestatic 113, 3) := by decide +kernel
theorem dX11_isShelf_9 : decode cX11_isShelf 9 = .ok (.ireturn, 1) := by decide +kernel
theorem dX11_keep_0 : decode cX11_keep 0 = .ok (.iload_n 1, 1) := by decide +kernel
theorem dX11_keep_1 : decode cX11_keep 1 = .ok (.invokestatic 309, 3) := by decide +kernel
theorem dX11_keep_4 : decode cX11_keep 4 = .ok (.ifCond .eq 16, 3) := by decide +kernel
theorem dX11_keep_7 : decode cX11_keep 7 = .ok (.iload_n 2, 1) := by decide +kernel
theorem dX11_keep_8 : decode cX11_keep 8 = .ok (.iconst (-1), 1) := by decide +kernel
theorem dX11_keep_9 : decode cX11_keep 9 = .ok (.if_icmp .eq 13, 3) := by decide +kernel
theorem dX11_keep_12 : decode cX11_keep 12 = .ok (.aload_n 0, 1) := by decide +kernel
theorem dX11_keep_13 : decode cX11_keep 13 = .ok (.iload_n 2, 1) := by decide +kernel
theorem dX11_keep_14 : decode cX11_keep 14 = .ok (.invokevirtual 440, 3) := by decide +kernel
theorem dX11_keep_17 : decode cX11_keep 17 = .ok (.ifCond .ne 5, 3) := by decide +kernel
theorem dX11_keep_20 : decode cX11_keep 20 = .ok (.iconst (-1), 1) := by decide +kernel
theorem dX11_keep_21 : decode cX11_keep 21 = .ok (.ireturn, 1) := by decide +kernel
theorem dX11_keep_22 : decode cX11_keep 22 = .ok (.aload_n 0, 1) := by decide +kernel
theorem dX11_keep_23 : decode cX11_keep 23 = .ok (.getfield 88, 3) := by decide +kernel
theorem dX11_keep_26 : decode cX11_keep 26 = .ok (.iload_n 1, 1) := by decide +kernel
theorem dX11_keep_27 : decode cX11_keep 27 = .ok (.iload_n 2, 1) := by decide +kernel
theorem dX11_keep_28 : decode cX11_keep 28 = .ok (.iastore, 1) := by decide +kernel
theorem dX11_keep_29 : decode cX11_keep 29 = .ok (.aload_n 0, 1) := by decide +kernel
theorem dX11_keep_30 : decode cX11_keep 30 = .ok (.getfield 91, 3) := by decide +kernel
theorem dX11_keep_33 : decode cX11_keep 33 = .ok (.iload_n 1, 1) := by decide +kernel
theorem dX11_keep_34 : decode cX11_keep 34 = .ok (.iconst 0, 1) := by decide +kernel
theorem dX11_keep_35 : decode cX11_keep 35 = .ok (.iastore, 1) := by decide +kernel
theorem dX11_keep_36 : decode cX11_keep 36 = .ok (.iconst 1, 1) := by decide +kernel
theorem dX11_keep_37 : decode cX11_keep 37 = .ok (.ireturn, 1) := by decide +kernel
theorem dX11_row_0 : decode cX11_row 0 = .ok (.iload_n 1, 1) := by decide +kernel
theorem dX11_row_1 : decode cX11_row 1 = .ok (.invokestatic 309, 3) := by decide +kernel
theorem dX11_row_4 : decode cX11_row 4 = .ok (.ifCond .eq 21, 3) := by decide +kernel
theorem dX11_row_7 : decode cX11_row 7 = .ok (.iload_n 2, 1) := by decide +kernel
theorem dX11_row_8 : decode cX11_row 8 = .ok (.i2l, 1) := by decide +kernel
theorem dX11_row_9 : decode cX11_row 9 = .ok (.lconst 0, 1) := by decide +kernel
theorem dX11_row_10 : decode cX11_row 10 = .ok (.ldc2_w 111, 3) := by decide +kernel
theorem dX11_row_13 : decode cX11_row 13 = .ok (.invokestatic 113, 3) := by decide +kernel
theorem dX11_row_16 : decode cX11_row 16 = .ok (.ifCond .eq 9, 3) := by decide +kernel
theorem dX11_row_19 : decode cX11_row 19 = .ok (.iload_n 3, 1) := by decide +kernel
theorem dX11_row_20 : decode cX11_row 20 = .ok (.bipush 60, 2) := by decide +kernel
theorem dX11_row_22 : decode cX11_row 22 = .ok (.if_icmp .le 5, 3) := by decide +kernel
theorem dX11_row_25 : decode cX11_row 25 = .ok (.iconst (-1), 1) := by decide +kernel
theorem dX11_row_26 : decode cX11_row 26 = .ok (.ireturn, 1) := by decide +kernel
theorem dX11_row_27 : decode cX11_row 27 = .ok (.iload_n 3, 1) := by decide +kernel
theorem dX11_row_28 : decode cX11_row 28 = .ok (.ifCond .ge 6, 3) := by decide +kernel
theorem dX11_row_31 : decode cX11_row 31 = .ok (.bipush (-14), 2) := by decide +kernel
theorem dX11_row_33 : decode cX11_row 33 = .ok (.ireturn, 1) := by decide +kernel
theorem dX11_row_34 : decode cX11_row 34 = .ok (.aload_n 0, 1) := by decide +kernel
theorem dX11_row_35 : decode cX11_row 35 = .ok (.getfield 88, 3) := by decide +kernel
theorem dX11_row_38 : decode cX11_row 38 = .ok (.iload_n 1, 1) := by decide +kernel
theorem dX11_row_39 : decode cX11_row 39 = .ok (.bipush 50, 2) := by decide +kernel
theorem dX11_row_41 : decode cX11_row 41 = .ok (.iload_n 2, 1) := by decide +kernel
theorem dX11_row_42 : decode cX11_row 42 = .ok (.iadd, 1) := by decide +kernel
theorem dX11_row_43 : decode cX11_row 43 = .ok (.iastore, 1) := by decide +kernel
theorem dX11_row_44 : decode cX11_row 44 = .ok (.aload_n 0, 1) := by decide +kernel
theorem dX11_row_45 : decode cX11_row 45 = .ok (.getfield 91, 3) := by decide +kernel
theorem dX11_row_48 : decode cX11_row 48 = .ok (.iload_n 1, 1) := by decide +kernel
theorem dX11_row_49 : decode cX11_row 49 = .ok (.iload_n 3, 1) := by decide +kernel
theorem dX11_row_50 : decode cX11_row 50 = .ok (.iastore, 1) := by decide +kernel
theorem dX11_row_51 : decode cX11_row 51 = .ok (.bipush 60, 2) := by decide +kernel
theorem dX11_row_53 : decode cX11_row 53 = .ok (.iload_n 1, 1) := by decide +kernel
theorem dX11_row_54 : decode cX11_row 54 = .ok (.imul, 1) := by decide +kernel
theorem dX11_row_55 : decode cX11_row 55 = .ok (.istore 4, 2) := by decide +kernel
theorem dX11_row_57 : decode cX11_row 57 = .ok (.iload 4, 2) := by decide +kernel
theorem dX11_row_59 : decode cX11_row 59 = .ok (.bipush 60, 2) := by decide +kernel
theorem dX11_row_61 : decode cX11_row 61 = .ok (.iload_n 1, 1) := by decide +kernel
theorem dX11_row_62 : decode cX11_row 62 = .ok (.imul, 1) := by decide +kernel
theorem dX11_row_63 : decode cX11_row 63 = .ok (.bipush 60, 2) := by decide +kernel
theorem dX11_row_65 : decode cX11_row 65 = .ok (.iadd, 1) := by decide +kernel
theorem dX11_row_66 : decode cX11_row 66 = .ok (.if_icmp .ge 17, 3) := by decide +kernel
theorem dX11_row_69 : decode cX11_row 69 = .ok (.aload_n 0, 1) := by decide +kernel
theorem dX11_row_70 : decode cX11_row 70 = .ok (.getfield 94, 3) := by decide +kernel
theorem dX11_row_73 : decode cX11_row 73 = .ok (.iload 4, 2) := by decide +kernel
theorem dX11_row_75 : decode cX11_row 75 = .ok (.lconst 0, 1) := by decide +kernel
theorem dX11_row_76 : decode cX11_row 76 = .ok (.lastore, 1) := by decide +kernel
theorem dX11_row_77 : decode cX11_row 77 = .ok (.iinc 4 1, 3) := by decide +kernel
theorem dX11_row_80 : decode cX11_row 80 = .ok (.goto (-23), 3) := by decide +kernel
theorem dX11_row_83 : decode cX11_row 83 = .ok (.iconst 1, 1) := by decide +kernel
theorem dX11_row_84 : decode cX11_row 84 = .ok (.ireturn, 1) := by decide +kernel
theorem dX11_refusal_0 : decode cX11_refusal 0 = .ok (.iload_n 1, 1) := by decide +kernel
theorem dX11_refusal_1 : decode cX11_refusal 1 = .ok (.invokestatic 309, 3) := by decide +kernel
theorem dX11_refusal_4 : decode cX11_refusal 4 = .ok (.ifCond .ne 5, 3) := by decide +kernel
theorem dX11_refusal_7 : decode cX11_refusal 7 = .ok (.iconst (-1), 1) := by decide +kernel
theorem dX11_refusal_8 : decode cX11_refusal 8 = .ok (.ireturn, 1) := by decide +kernel
theorem dX11_refusal_9 : decode cX11_refusal 9 = .ok (.aload_n 0, 1) := by decide +kernel
theorem dX11_refusal_10 : decode cX11_refusal 10 = .ok (.getfield 88, 3) := by decide +kernel
theorem dX11_refusal_13 : decode cX11_refusal 13 = .ok (.iload_n 1, 1) := by decide +kernel
theorem dX11_refusal_14 : decode cX11_refusal 14 = .ok (.iaload, 1) := by decide +kernel
theorem dX11_refusal_15 : decode cX11_refusal 15 = .ok (.ifCond .ge 6, 3) := by decide +kernel
theorem dX11_refusal_18 : decode cX11_refusal 18 = .ok (.bipush (-11), 2) := by decide +kernel
theorem dX11_refusal_20 : decode cX11_refusal 20 = .ok (.ireturn, 1) := by decide +kernel
theorem dX11_refusal_21 : decode cX11_refusal 21 = .ok (.aload_n 0, 1) := by decide +kernel
theorem dX11_refusal_22 : decode cX11_refusal 22 = .ok (.getfield 88, 3) := by decide +kernel
theorem dX11_refusal_25 : decode cX11_refusal 25 = .ok (.iload_n 1, 1) := by decide +kernel
theorem dX11_refusal_26 : decode cX11_refusal 26 = .ok (.iaload, 1) := by decide +kernel
theorem dX11_refusal_27 : decode cX11_refusal 27 = .ok (.bipush 50, 2) := by decide +kernel
theorem dX11_refusal_29 : decode cX11_refusal 29 = .ok (.if_icmp .ge 6, 3) := by decide +kernel
theorem dX11_refusal_32 : decode cX11_refusal 32 = .ok (.bipush (-12), 2) := by decide +kernel
theorem dX11_refusal_34 : decode cX11_refusal 34 = .ok (.ireturn, 1) := by decide +kernel
theorem dX11_refusal_35 : decode cX11_refusal 35 = .ok (.iload_n 2, 1) := by decide +kernel
theorem dX11_refusal_36 : decode cX11_refusal 36 = .ok (.ifCond .lt 17, 3) := by decide +kernel
theorem dX11_refusal_39 : decode cX11_refusal 39 = .ok (.iload_n 2, 1) := by decide +kernel
theorem dX11_refusal_40 : decode cX11_refusal 40 = .ok (.aload_n 0, 1) := by decide +kernel
theorem dX11_refusal_41 : decode cX11_refusal 41 = .ok (.getfield 91, 3) := by decide +kernel
theorem dX11_refusal_44 : decode cX11_refusal 44 = .ok (.iload_n 1, 1) := by decide +kernel
theorem dX11_refusal_45 : decode cX11_refusal 45 = .ok (.iaload, 1) := by decide +kernel
theorem dX11_refusal_46 : decode cX11_refusal 46 = .ok (.if_icmp .ge 7, 3) := by decide +kernel
theorem dX11_refusal_49 : decode cX11_refusal 49 = .ok (.iconst 0, 1) := by decide +kernel
theorem dX11_refusal_50 : decode cX11_refusal 50 = .ok (.goto 5, 3) := by decide +kernel
theorem dX11_refusal_53 : decode cX11_refusal 53 = .ok (.bipush (-13), 2) := by decide +kernel
theorem dX11_refusal_55 : decode cX11_refusal 55 = .ok (.ireturn, 1) := by decide +kernel
theorem dX11_asSort_0 : decode cX11_asSort 0 = .ok (.iload_n 0, 1) := by decide +kernel
theorem dX11_asSort_1 : decode cX11_asSort 1 = .ok (.ifCond .ne 10, 3) := by decide +kernel
theorem dX11_asSort_4 : decode cX11_asSort 4 = .ok (.lload_n 1, 1) := by decide +kernel
theorem dX11_asSort_5 : decode cX11_asSort 5 = .ok (.l2i, 1) := by decide +kernel
theorem dX11_asSort_6 : decode cX11_asSort 6 = .ok (.i2b, 1) := by decide +kernel
theorem dX11_asSort_7 : decode cX11_asSort 7 = .ok (.i2l, 1) := by decide +kernel
theorem dX11_asSort_8 : decode cX11_asSort 8 = .ok (.goto 46, 3) := by decide +kernel
theorem dX11_asSort_11 : decode cX11_asSort 11 = .ok (.iload_n 0, 1) := by decide +kernel
theorem dX11_asSort_12 : decode cX11_asSort 12 = .ok (.iconst 1, 1) := by decide +kernel
theorem dX11_asSort_13 : decode cX11_asSort 13 = .ok (.if_icmp .ne 10, 3) := by decide +kernel
theorem dX11_asSort_16 : decode cX11_asSort 16 = .ok (.lload_n 1, 1) := by decide +kernel
theorem dX11_asSort_17 : decode cX11_asSort 17 = .ok (.l2i, 1) := by decide +kernel
theorem dX11_asSort_18 : decode cX11_asSort 18 = .ok (.i2s, 1) := by decide +kernel
theorem dX11_asSort_19 : decode cX11_asSort 19 = .ok (.i2l, 1) := by decide +kernel
theorem dX11_asSort_20 : decode cX11_asSort 20 = .ok (.goto 34, 3) := by decide +kernel
theorem dX11_asSort_23 : decode cX11_asSort 23 = .ok (.iload_n 0, 1) := by decide +kernel
theorem dX11_asSort_24 : decode cX11_asSort 24 = .ok (.iconst 2, 1) := by decide +kernel
theorem dX11_asSort_25 : decode cX11_asSort 25 = .ok (.if_icmp .ne 9, 3) := by decide +kernel
theorem dX11_asSort_28 : decode cX11_asSort 28 = .ok (.lload_n 1, 1) := by decide +kernel
theorem dX11_asSort_29 : decode cX11_asSort 29 = .ok (.l2i, 1) := by decide +kernel
theorem dX11_asSort_30 : decode cX11_asSort 30 = .ok (.i2l, 1) := by decide +kernel
theorem dX11_asSort_31 : decode cX11_asSort 31 = .ok (.goto 23, 3) := by decide +kernel
theorem dX11_asSort_34 : decode cX11_asSort 34 = .ok (.iload_n 0, 1) := by decide +kernel
theorem dX11_asSort_35 : decode cX11_asSort 35 = .ok (.iconst 4, 1) := by decide +kernel
theorem dX11_asSort_36 : decode cX11_asSort 36 = .ok (.if_icmp .ne 17, 3) := by decide +kernel
theorem dX11_asSort_39 : decode cX11_asSort 39 = .ok (.lload_n 1, 1) := by decide +kernel
theorem dX11_asSort_40 : decode cX11_asSort 40 = .ok (.lconst 0, 1) := by decide +kernel
theorem dX11_asSort_41 : decode cX11_asSort 41 = .ok (.lcmp, 1) := by decide +kernel
theorem dX11_asSort_42 : decode cX11_asSort 42 = .ok (.ifCond .eq 7, 3) := by decide +kernel
theorem dX11_asSort_45 : decode cX11_asSort 45 = .ok (.lconst 1, 1) := by decide +kernel
theorem dX11_asSort_46 : decode cX11_asSort 46 = .ok (.goto 8, 3) := by decide +kernel
theorem dX11_asSort_49 : decode cX11_asSort 49 = .ok (.lconst 0, 1) := by decide +kernel
theorem dX11_asSort_50 : decode cX11_asSort 50 = .ok (.goto 4, 3) := by decide +kernel
theorem dX11_asSort_53 : decode cX11_asSort 53 = .ok (.lload_n 1, 1) := by decide +kernel
theorem dX11_asSort_54 : decode cX11_asSort 54 = .ok (.lreturn, 1) := by decide +kernel
theorem dX11_put_0 : decode cX11_put 0 = .ok (.aload_n 0, 1) := by decide +kernel
theorem dX11_put_1 : decode cX11_put 1 = .ok (.iload_n 1, 1) := by decide +kernel
theorem dX11_put_2 : decode cX11_put 2 = .ok (.iload_n 2, 1) := by decide +kernel
theorem dX11_put_3 : decode cX11_put 3 = .ok (.invokevirtual 445, 3) := by decide +kernel
theorem dX11_put_6 : decode cX11_put 6 = .ok (.istore 5, 2) := by decide +kernel
theorem dX11_put_8 : decode cX11_put 8 = .ok (.iload 5, 2) := by decide +kernel
theorem dX11_put_10 : decode cX11_put 10 = .ok (.ifCond .ne 27, 3) := by decide +kernel
theorem dX11_put_13 : decode cX11_put 13 = .ok (.aload_n 0, 1) := by decide +kernel
theorem dX11_put_14 : decode cX11_put 14 = .ok (.getfield 94, 3) := by decide +kernel
theorem dX11_put_17 : decode cX11_put 17 = .ok (.bipush 60, 2) := by decide +kernel
theorem dX11_put_19 : decode cX11_put 19 = .ok (.iload_n 1, 1) := by decide +kernel
theorem dX11_put_20 : decode cX11_put 20 = .ok (.imul, 1) := by decide +kernel
theorem dX11_put_21 : decode cX11_put 21 = .ok (.iload_n 2, 1) := by decide +kernel
theorem dX11_put_22 : decode cX11_put 22 = .ok (.iadd, 1) := by decide +kernel
theorem dX11_put_23 : decode cX11_put 23 = .ok (.aload_n 0, 1) := by decide +kernel
theorem dX11_put_24 : decode cX11_put 24 = .ok (.getfield 88, 3) := by decide +kernel
theorem dX11_put_27 : decode cX11_put 27 = .ok (.iload_n 1, 1) := by decide +kernel
theorem dX11_put_28 : decode cX11_put 28 = .ok (.iaload, 1) := by decide +kernel
theorem dX11_put_29 : decode cX11_put 29 = .ok (.bipush 50, 2) := by decide +kernel
theorem dX11_put_31 : decode cX11_put 31 = .ok (.isub, 1) := by decide +kernel
theorem dX11_put_32 : decode cX11_put 32 = .ok (.lload_n 3, 1) := by decide +kernel
theorem dX11_put_33 : decode cX11_put 33 = .ok (.invokestatic 448, 3) := by decide +kernel
theorem dX11_put_36 : decode cX11_put 36 = .ok (.lastore, 1) := by decide +kernel
theorem dX11_put_37 : decode cX11_put 37 = .ok (.iload 5, 2) := by decide +kernel
theorem dX11_put_39 : decode cX11_put 39 = .ok (.ifCond .ne 7, 3) := by decide +kernel
theorem dX11_put_42 : decode cX11_put 42 = .ok (.iconst 1, 1) := by decide +kernel
theorem dX11_put_43 : decode cX11_put 43 = .ok (.goto 5, 3) := by decide +kernel
theorem dX11_put_46 : decode cX11_put 46 = .ok (.iload 5, 2) := by decide +kernel
theorem dX11_put_48 : decode cX11_put 48 = .ok (.ireturn, 1) := by decide +kernel
theorem dX11_element_0 : decode cX11_element 0 = .ok (.aload_n 0, 1) := by decide +kernel
theorem dX11_element_1 : decode cX11_element 1 = .ok (.iload_n 1, 1) := by decide +kernel
theorem dX11_element_2 : decode cX11_element 2 = .ok (.iload_n 2, 1) := by decide +kernel
theorem dX11_element_3 : decode cX11_element 3 = .ok (.invokevirtual 445, 3) := by decide +kernel
theorem dX11_element_6 : decode cX11_element 6 = .ok (.ifCond .eq 9, 3) := by decide +kernel
theorem dX11_element_9 : decode cX11_element 9 = .ok (.ldc2_w 454, 3) := by decide +kernel
theorem dX11_element_12 : decode cX11_element 12 = .ok (.goto 14, 3) := by decide +kernel
theorem dX11_element_15 : decode cX11_element 15 = .ok (.aload_n 0, 1) := by decide +kernel
theorem dX11_element_16 : decode cX11_element 16 = .ok (.getfield 94, 3) := by decide +kernel
theorem dX11_element_19 : decode cX11_element 19 = .ok (.bipush 60, 2) := by decide +kernel
theorem dX11_element_21 : decode cX11_element 21 = .ok (.iload_n 1, 1) := by decide +kernel
theorem dX11_element_22 : decode cX11_element 22 = .ok (.imul, 1) := by decide +kernel
theorem dX11_element_23 : decode cX11_element 23 = .ok (.iload_n 2, 1) := by decide +kernel
theorem dX11_element_24 : decode cX11_element 24 = .ok (.iadd, 1) := by decide +kernel
theorem dX11_element_25 : decode cX11_element 25 = .ok (.laload, 1) := by decide +kernel
theorem dX11_element_26 : decode cX11_element 26 = .ok (.lreturn, 1) := by decide +kernel
theorem dX11_shift_0 : decode cX11_shift 0 = .ok (.iload_n 1, 1) := by decide +kernel
theorem dX11_shift_1 : decode cX11_shift 1 = .ok (.invokestatic 309, 3) := by decide +kernel
theorem dX11_shift_4 : decode cX11_shift 4 = .ok (.ifCond .eq 10, 3) := by decide +kernel
theorem dX11_shift_7 : decode cX11_shift 7 = .ok (.iload_n 3, 1) := by decide +kernel
theorem dX11_shift_8 : decode cX11_shift 8 = .ok (.invokestatic 309, 3) := by decide +kernel
theorem dX11_shift_11 : decode cX11_shift 11 = .ok (.ifCond .ne 5, 3) := by decide +kernel
theorem dX11_shift_14 : decode cX11_shift 14 = .ok (.iconst (-1), 1) := by decide +kernel
theorem dX11_shift_15 : decode cX11_shift 15 = .ok (.ireturn, 1) := by decide +kernel
theorem dX11_shift_16 : decode cX11_shift 16 = .ok (.aload_n 0, 1) := by decide +kernel
theorem dX11_shift_17 : decode cX11_shift 17 = .ok (.getfield 88, 3) := by decide +kernel
theorem dX11_shift_20 : decode cX11_shift 20 = .ok (.iload_n 1, 1) := by decide +kernel
theorem dX11_shift_21 : decode cX11_shift 21 = .ok (.iaload, 1) := by decide +kernel
theorem dX11_shift_22 : decode cX11_shift 22 = .ok (.ifCond .lt 12, 3) := by decide +kernel
theorem dX11_shift_25 : decode cX11_shift 25 = .ok (.aload_n 0, 1) := by decide +kernel
theorem dX11_shift_26 : decode cX11_shift 26 = .ok (.getfield 88, 3) := by decide +kernel
theorem dX11_shift_29 : decode cX11_shift 29 = .ok (.iload_n 3, 1) := by decide +kernel
theorem dX11_shift_30 : decode cX11_shift 30 = .ok (.iaload, 1) := by decide +kernel
theorem dX11_shift_31 : decode cX11_shift 31 = .ok (.ifCond .ge 6, 3) := by decide +kernel
theorem dX11_shift_34 : decode cX11_shift 34 = .ok (.bipush (-11), 2) := by decide +kernel
theorem dX11_shift_36 : decode cX11_shift 36 = .ok (.ireturn, 1) := by decide +kernel
theorem dX11_shift_37 : decode cX11_shift 37 = .ok (.aload_n 0, 1) := by decide +kernel
theorem dX11_shift_38 : decode cX11_shift 38 = .ok (.getfield 88, 3) := by decide +kernel
theorem dX11_shift_41 : decode cX11_shift 41 = .ok (.iload_n 1, 1) := by decide +kernel
theorem dX11_shift_42 : decode cX11_shift 42 = .ok (.iaload, 1) := by decide +kernel
theorem dX11_shift_43 : decode cX11_shift 43 = .ok (.bipush 50, 2) := by decide +kernel
theorem dX11_shift_45 : decode cX11_shift 45 = .ok (.if_icmp .lt 18, 3) := by decide +kernel
theorem dX11_shift_48 : decode cX11_shift 48 = .ok (.aload_n 0, 1) := by decide +kernel
theorem dX11_shift_49 : decode cX11_shift 49 = .ok (.getfield 88, 3) := by decide +kernel
theorem dX11_shift_52 : decode cX11_shift 52 = .ok (.iload_n 1, 1) := by decide +kernel
theorem dX11_shift_53 : decode cX11_shift 53 = .ok (.iaload, 1) := by decide +kernel
theorem dX11_shift_54 : decode cX11_shift 54 = .ok (.aload_n 0, 1) := by decide +kernel
theorem dX11_shift_55 : decode cX11_shift 55 = .ok (.getfield 88, 3) := by decide +kernel
theorem dX11_shift_58 : decode cX11_shift 58 = .ok (.iload_n 3, 1) := by decide +kernel
theorem dX11_shift_59 : decode cX11_shift 59 = .ok (.iaload, 1) := by decide +kernel
theorem dX11_shift_60 : decode cX11_shift 60 = .ok (.if_icmp .eq 6, 3) := by decide +kernel
theorem dX11_shift_63 : decode cX11_shift 63 = .ok (.bipush (-12), 2) := by decide +kernel
theorem dX11_shift_65 : decode cX11_shift 65 = .ok (.ireturn, 1) := by decide +kernel
theorem dX11_shift_66 : decode cX11_shift 66 = .ok (.iload 5, 2) := by decide +kernel
theorem dX11_shift_68 : decode cX11_shift 68 = .ok (.ifCond .lt 39, 3) := by decide +kernel
theorem dX11_shift_71 : decode cX11_shift 71 = .ok (.iload_n 2, 1) := by decide +kernel
theorem dX11_shift_72 : decode cX11_shift 72 = .ok (.ifCond .lt 35, 3) := by decide +kernel
theorem dX11_shift_75 : decode cX11_shift 75 = .ok (.iload 4, 2) := by decide +kernel
theorem dX11_shift_77 : decode cX11_shift 77 = .ok (.ifCond .lt 30, 3) := by decide +kernel
theorem dX11_shift_80 : decode cX11_shift 80 = .ok (.iload_n 2, 1) := by decide +kernel
theorem dX11_shift_81 : decode cX11_shift 81 = .ok (.aload_n 0, 1) := by decide +kernel
theorem dX11_shift_82 : decode cX11_shift 82 = .ok (.getfield 91, 3) := by decide +kernel
theorem dX11_shift_85 : decode cX11_shift 85 = .ok (.iload_n 1, 1) := by decide +kernel
theorem dX11_shift_86 : decode cX11_shift 86 = .ok (.iaload, 1) := by decide +kernel
theorem dX11_shift_87 : decode cX11_shift 87 = .ok (.iload 5, 2) := by decide +kernel
theorem dX11_shift_89 : decode cX11_shift 89 = .ok (.isub, 1) := by decide +kernel
theorem dX11_shift_90 : decode cX11_shift 90 = .ok (.if_icmp .gt 17, 3) := by decide +kernel
theorem dX11_shift_93 : decode cX11_shift 93 = .ok (.iload 4, 2) := by decide +kernel
theorem dX11_shift_95 : decode cX11_shift 95 = .ok (.aload_n 0, 1) := by decide +kernel
theorem dX11_shift_96 : decode cX11_shift 96 = .ok (.getfield 91, 3) := by decide +kernel
theorem dX11_shift_99 : decode cX11_shift 99 = .ok (.iload_n 3, 1) := by decide +kernel
theorem dX11_shift_100 : decode cX11_shift 100 = .ok (.iaload, 1) := by decide +kernel
theorem dX11_shift_101 : decode cX11_shift 101 = .ok (.iload 5, 2) := by decide +kernel
theorem dX11_shift_103 : decode cX11_shift 103 = .ok (.isub, 1) := by decide +kernel
theorem dX11_shift_104 : decode cX11_shift 104 = .ok (.if_icmp .le 6, 3) := by decide +kernel
theorem dX11_shift_107 : decode cX11_shift 107 = .ok (.bipush (-13), 2) := by decide +kernel
theorem dX11_shift_109 : decode cX11_shift 109 = .ok (.ireturn, 1) := by decide +kernel
theorem dX11_shift_110 : decode cX11_shift 110 = .ok (.iconst 0, 1) := by decide +kernel
theorem dX11_shift_111 : decode cX11_shift 111 = .ok (.istore 6, 2) := by decide +kernel
theorem dX11_shift_113 : decode cX11_shift 113 = .ok (.iload 6, 2) := by decide +kernel
theorem dX11_shift_115 : decode cX11_shift 115 = .ok (.iload 5, 2) := by decide +kernel
theorem dX11_shift_117 : decode cX11_shift 117 = .ok (.if_icmp .ge 30, 3) := by decide +kernel
theorem dX11_shift_120 : decode cX11_shift 120 = .ok (.aload_n 0, 1) := by decide +kernel
theorem dX11_shift_121 : decode cX11_shift 121 = .ok (.getfield 98, 3) := by decide +kernel
theorem dX11_shift_124 : decode cX11_shift 124 = .ok (.iload 6, 2) := by decide +kernel
theorem dX11_shift_126 : decode cX11_shift 126 = .ok (.aload_n 0, 1) := by decide +kernel
theorem dX11_shift_127 : decode cX11_shift 127 = .ok (.getfield 94, 3) := by decide +kernel
theorem dX11_shift_130 : decode cX11_shift 130 = .ok (.bipush 60, 2) := by decide +kernel
theorem dX11_shift_132 : decode cX11_shift 132 = .ok (.iload_n 1, 1) := by decide +kernel
theorem dX11_shift_133 : decode cX11_shift 133 = .ok (.imul, 1) := by decide +kernel
theorem dX11_shift_134 : decode cX11_shift 134 = .ok (.iload_n 2, 1) := by decide +kernel
theorem dX11_shift_135 : decode cX11_shift 135 = .ok (.iadd, 1) := by decide +kernel
theorem dX11_shift_136 : decode cX11_shift 136 = .ok (.iload 6, 2) := by decide +kernel
theorem dX11_shift_138 : decode cX11_shift 138 = .ok (.iadd, 1) := by decide +kernel
theorem dX11_shift_139 : decode cX11_shift 139 = .ok (.laload, 1) := by decide +kernel
theorem dX11_shift_140 : decode cX11_shift 140 = .ok (.lastore, 1) := by decide +kernel
theorem dX11_shift_141 : decode cX11_shift 141 = .ok (.iinc 6 1, 3) := by decide +kernel
theorem dX11_shift_144 : decode cX11_shift 144 = .ok (.goto (-31), 3) := by decide +kernel
theorem dX11_shift_147 : decode cX11_shift 147 = .ok (.iconst 0, 1) := by decide +kernel
theorem dX11_shift_148 : decode cX11_shift 148 = .ok (.istore 6, 2) := by decide +kernel
theorem dX11_shift_150 : decode cX11_shift 150 = .ok (.iload 6, 2) := by decide +kernel
theorem dX11_shift_152 : decode cX11_shift 152 = .ok (.iload 5, 2) := by decide +kernel
theorem dX11_shift_154 : decode cX11_shift 154 = .ok (.if_icmp .ge 31, 3) := by decide +kernel
theorem dX11_shift_157 : decode cX11_shift 157 = .ok (.aload_n 0, 1) := by decide +kernel
theorem dX11_shift_158 : decode cX11_shift 158 = .ok (.getfield 94, 3) := by decide +kernel
theorem dX11_shift_161 : decode cX11_shift 161 = .ok (.bipush 60, 2) := by decide +kernel
theorem dX11_shift_163 : decode cX11_shift 163 = .ok (.iload_n 3, 1) := by decide +kernel
theorem dX11_shift_164 : decode cX11_shift 164 = .ok (.imul, 1) := by decide +kernel
theorem dX11_shift_165 : decode cX11_shift 165 = .ok (.iload 4, 2) := by decide +kernel
theorem dX11_shift_167 : decode cX11_shift 167 = .ok (.iadd, 1) := by decide +kernel
theorem dX11_shift_168 : decode cX11_shift 168 = .ok (.iload 6, 2) := by decide +kernel
theorem dX11_shift_170 : decode cX11_shift 170 = .ok (.iadd, 1) := by decide +kernel
theorem dX11_shift_171 : decode cX11_shift 171 = .ok (.aload_n 0, 1) := by decide +kernel
theorem dX11_shift_172 : decode cX11_shift 172 = .ok (.getfield 98, 3) := by decide +kernel
theorem dX11_shift_175 : decode cX11_shift 175 = .ok (.iload 6, 2) := by decide +kernel
theorem dX11_shift_177 : decode cX11_shift 177 = .ok (.laload, 1) := by decide +kernel
theorem dX11_shift_178 : decode cX11_shift 178 = .ok (.lastore, 1) := by decide +kernel
theorem dX11_shift_179 : decode cX11_shift 179 = .ok (.iinc 6 1, 3) := by decide +kernel
theorem dX11_shift_182 : decode cX11_shift 182 = .ok (.goto (-32), 3) := by decide +kernel
theorem dX11_shift_185 : decode cX11_shift 185 = .ok (.iload 5, 2) := by decide +kernel
theorem dX11_shift_187 : decode cX11_shift 187 = .ok (.ireturn, 1) := by decide +kernel
theorem dX11_taken_0 : decode cX11_taken 0 = .ok (.iload_n 1, 1) := by decide +kernel
theorem dX11_taken_1 : decode cX11_taken 1 = .ok (.invokestatic 309, 3) := by decide +kernel
theorem dX11_taken_4 : decode cX11_taken 4 = .ok (.ifCond .eq 15, 3) := by decide +kernel
theorem dX11_taken_7 : decode cX11_taken 7 = .ok (.iload_n 2, 1) := by decide +kernel
theorem dX11_taken_8 : decode cX11_taken 8 = .ok (.i2l, 1) := by decide +kernel
theorem dX11_taken_9 : decode cX11_taken 9 = .ok (.lconst 0, 1) := by decide +kernel
theorem dX11_taken_10 : decode cX11_taken 10 = .ok (.ldc2_w 414, 3) := by decide +kernel
theorem dX11_taken_13 : decode cX11_taken 13 = .ok (.invokestatic 113, 3) := by decide +kernel
theorem dX11_taken_16 : decode cX11_taken 16 = .ok (.ifCond .ne 5, 3) := by decide +kernel
theorem dX11_taken_19 : decode cX11_taken 19 = .ok (.iconst (-1), 1) := by decide +kernel
theorem dX11_taken_20 : decode cX11_taken 20 = .ok (.ireturn, 1) := by decide +kernel
theorem dX11_taken_21 : decode cX11_taken 21 = .ok (.aload_n 0, 1) := by decide +kernel
theorem dX11_taken_22 : decode cX11_taken 22 = .ok (.getfield 88, 3) := by decide +kernel
theorem dX11_taken_25 : decode cX11_taken 25 = .ok (.iload_n 1, 1) := by decide +kernel
theorem dX11_taken_26 : decode cX11_taken 26 = .ok (.iaload, 1) := by decide +kernel
theorem dX11_taken_27 : decode cX11_taken 27 = .ok (.ifCond .ge 6, 3) := by decide +kernel
theorem dX11_taken_30 : decode cX11_taken 30 = .ok (.bipush (-11), 2) := by decide +kernel
theorem dX11_taken_32 : decode cX11_taken 32 = .ok (.ireturn, 1) := by decide +kernel
theorem dX11_taken_33 : decode cX11_taken 33 = .ok (.aload_n 0, 1) := by decide +kernel
theorem dX11_taken_34 : decode cX11_taken 34 = .ok (.getfield 88, 3) := by decide +kernel
theorem dX11_taken_37 : decode cX11_taken 37 = .ok (.iload_n 1, 1) := by decide +kernel
theorem dX11_taken_38 : decode cX11_taken 38 = .ok (.iaload, 1) := by decide +kernel
theorem dX11_taken_39 : decode cX11_taken 39 = .ok (.bipush 50, 2) := by decide +kernel
theorem dX11_taken_41 : decode cX11_taken 41 = .ok (.if_icmp .lt 6, 3) := by decide +kernel
theorem dX11_taken_44 : decode cX11_taken 44 = .ok (.bipush (-12), 2) := by decide +kernel
theorem dX11_taken_46 : decode cX11_taken 46 = .ok (.ireturn, 1) := by decide +kernel
theorem dX11_taken_47 : decode cX11_taken 47 = .ok (.aload_n 0, 1) := by decide +kernel
theorem dX11_taken_48 : decode cX11_taken 48 = .ok (.aload_n 0, 1) := by decide +kernel
theorem dX11_taken_49 : decode cX11_taken 49 = .ok (.getfield 88, 3) := by decide +kernel
theorem dX11_taken_52 : decode cX11_taken 52 = .ok (.iload_n 1, 1) := by decide +kernel
theorem dX11_taken_53 : decode cX11_taken 53 = .ok (.iaload, 1) := by decide +kernel
theorem dX11_taken_54 : decode cX11_taken 54 = .ok (.invokevirtual 456, 3) := by decide +kernel
theorem dX11_taken_57 : decode cX11_taken 57 = .ok (.istore_n 3, 1) := by decide +kernel
theorem dX11_taken_58 : decode cX11_taken 58 = .ok (.iload_n 3, 1) := by decide +kernel
theorem dX11_taken_59 : decode cX11_taken 59 = .ok (.iload_n 2, 1) := by decide +kernel
theorem dX11_taken_60 : decode cX11_taken 60 = .ok (.if_icmp .eq 15, 3) := by decide +kernel
theorem dX11_taken_63 : decode cX11_taken 63 = .ok (.iload_n 3, 1) := by decide +kernel
theorem dX11_taken_64 : decode cX11_taken 64 = .ok (.ifCond .le 11, 3) := by decide +kernel
theorem dX11_taken_67 : decode cX11_taken 67 = .ok (.iload_n 3, 1) := by decide +kernel
theorem dX11_taken_68 : decode cX11_taken 68 = .ok (.invokestatic 459, 3) := by decide +kernel
theorem dX11_taken_71 : decode cX11_taken 71 = .ok (.istore_n 3, 1) := by decide +kernel
theorem dX11_taken_72 : decode cX11_taken 72 = .ok (.goto (-14), 3) := by decide +kernel
theorem dX11_taken_75 : decode cX11_taken 75 = .ok (.iload_n 3, 1) := by decide +kernel
theorem dX11_taken_76 : decode cX11_taken 76 = .ok (.iload_n 2, 1) := by decide +kernel
theorem dX11_taken_77 : decode cX11_taken 77 = .ok (.if_icmp .ne 16, 3) := by decide +kernel
theorem dX11_taken_80 : decode cX11_taken 80 = .ok (.aload_n 0, 1) := by decide +kernel
theorem dX11_taken_81 : decode cX11_taken 81 = .ok (.aload_n 0, 1) := by decide +kernel
theorem dX11_taken_82 : decode cX11_taken 82 = .ok (.getfield 88, 3) := by decide +kernel
theorem dX11_taken_85 : decode cX11_taken 85 = .ok (.iload_n 1, 1) := by decide +kernel
theorem dX11_taken_86 : decode cX11_taken 86 = .ok (.iaload, 1) := by decide +kernel
theorem dX11_taken_87 : decode cX11_taken 87 = .ok (.invokevirtual 456, 3) := by decide +kernel
theorem dX11_taken_90 : decode cX11_taken 90 = .ok (.goto 5, 3) := by decide +kernel
theorem dX11_taken_93 : decode cX11_taken 93 = .ok (.bipush (-12), 2) := by decide +kernel
theorem dX11_taken_95 : decode cX11_taken 95 = .ok (.ireturn, 1) := by decide +kernel
theorem dX11_count_0 : decode cX11_count 0 = .ok (.iload_n 1, 1) := by decide +kernel
theorem dX11_count_1 : decode cX11_count 1 = .ok (.tableswitch 78 0 6 #[43, 48, 53, 58, 63, 68, 73], 43) := by decide +kernel
theorem dX11_count_44 : decode cX11_count 44 = .ok (.aload_n 0, 1) := by decide +kernel
theorem dX11_count_45 : decode cX11_count 45 = .ok (.getfield 172, 3) := by decide +kernel
theorem dX11_count_48 : decode cX11_count 48 = .ok (.ireturn, 1) := by decide +kernel
theorem dX11_count_49 : decode cX11_count 49 = .ok (.aload_n 0, 1) := by decide +kernel
theorem dX11_count_50 : decode cX11_count 50 = .ok (.getfield 306, 3) := by decide +kernel
theorem dX11_count_53 : decode cX11_count 53 = .ok (.ireturn, 1) := by decide +kernel
theorem dX11_count_54 : decode cX11_count 54 = .ok (.aload_n 0, 1) := by decide +kernel
theorem dX11_count_55 : decode cX11_count 55 = .ok (.getfield 117, 3) := by decide +kernel
theorem dX11_count_58 : decode cX11_count 58 = .ok (.ireturn, 1) := by decide +kernel
theorem dX11_count_59 : decode cX11_count 59 = .ok (.aload_n 0, 1) := by decide +kernel
theorem dX11_count_60 : decode cX11_count 60 = .ok (.getfield 333, 3) := by decide +kernel
theorem dX11_count_63 : decode cX11_count 63 = .ok (.ireturn, 1) := by decide +kernel
theorem dX11_count_64 : decode cX11_count 64 = .ok (.aload_n 0, 1) := by decide +kernel
theorem dX11_count_65 : decode cX11_count 65 = .ok (.getfield 105, 3) := by decide +kernel
theorem dX11_count_68 : decode cX11_count 68 = .ok (.ireturn, 1) := by decide +kernel
theorem dX11_count_69 : decode cX11_count 69 = .ok (.aload_n 0, 1) := by decide +kernel
theorem dX11_count_70 : decode cX11_count 70 = .ok (.getfield 411, 3) := by decide +kernel
theorem dX11_count_73 : decode cX11_count 73 = .ok (.ireturn, 1) := by decide +kernel
theorem dX11_count_74 : decode cX11_count 74 = .ok (.aload_n 0, 1) := by decide +kernel
theorem dX11_count_75 : decode cX11_count 75 = .ok (.getfield 416, 3) := by decide +kernel
theorem dX11_count_78 : decode cX11_count 78 = .ok (.ireturn, 1) := by decide +kernel
theorem dX11_count_79 : decode cX11_count 79 = .ok (.iconst (-1), 1) := by decide +kernel
theorem dX11_count_80 : decode cX11_count 80 = .ok (.ireturn, 1) := by decide +kernel
theorem dL_law_0 : decode cL_law 0 = .ok (.new 7, 3) := by decide +kernel
theorem dL_law_3 : decode cL_law 3 = .ok (.dup, 1) := by decide +kernel
theorem dL_law_4 : decode cL_law 4 = .ok (.invokespecial 9, 3) := by decide +kernel
theorem dL_law_7 : decode cL_law 7 = .ok (.astore_n 1, 1) := by decide +kernel
theorem dL_law_8 : decode cL_law 8 = .ok (.new 10, 3) := by decide +kernel
theorem dL_law_11 : decode cL_law 11 = .ok (.dup, 1) := by decide +kernel
theorem dL_law_12 : decode cL_law 12 = .ok (.invokespecial 12, 3) := by decide +kernel
theorem dL_law_15 : decode cL_law 15 = .ok (.astore_n 2, 1) := by decide +kernel
theorem dL_law_16 : decode cL_law 16 = .ok (.iconst 0, 1) := by decide +kernel
theorem dL_law_17 : decode cL_law 17 = .ok (.istore_n 3, 1) := by decide +kernel
theorem dL_law_18 : decode cL_law 18 = .ok (.iload_n 3, 1) := by decide +kernel
theorem dL_law_19 : decode cL_law 19 = .ok (.aload_n 0, 1) := by decide +kernel
theorem dL_law_20 : decode cL_law 20 = .ok (.arraylength, 1) := by decide +kernel
theorem dL_law_21 : decode cL_law 21 = .ok (.bipush 6, 2) := by decide +kernel
theorem dL_law_23 : decode cL_law 23 = .ok (.isub, 1) := by decide +kernel
theorem dL_law_24 : decode cL_law 24 = .ok (.if_icmp .gt 1634, 3) := by decide +kernel
theorem dL_law_27 : decode cL_law 27 = .ok (.aload_n 0, 1) := by decide +kernel
theorem dL_law_28 : decode cL_law 28 = .ok (.iload_n 3, 1) := by decide +kernel
theorem dL_law_29 : decode cL_law 29 = .ok (.iaload, 1) := by decide +kernel
theorem dL_law_30 : decode cL_law 30 = .ok (.bipush 63, 2) := by decide +kernel
theorem dL_law_32 : decode cL_law 32 = .ok (.iand, 1) := by decide +kernel
theorem dL_law_33 : decode cL_law 33 = .ok (.tableswitch 1619 0 38 #[171, 204, 217, 250, 293, 306, 349, 402, 435, 478, 521, 564, 607, 650, 683, 716, 749, 792, 815, 838, 851, 894, 927, 970, 1003, 1066, 1139, 1202, 1215, 1228, 1251, 1294, 1317, 1350, 1393, 1466, 1500, 1563, 1596], 171) := by decide +kernel
theorem dL_law_204 : decode cL_law 204 = .ok (.aload_n 1, 1) := by decide +kernel
theorem dL_law_205 : decode cL_law 205 = .ok (.aload_n 0, 1) := by decide +kernel
theorem dL_law_206 : decode cL_law 206 = .ok (.iload_n 3, 1) := by decide +kernel
theorem dL_law_207 : decode cL_law 207 = .ok (.iconst 1, 1) := by decide +kernel
theorem dL_law_208 : decode cL_law 208 = .ok (.iadd, 1) := by decide +kernel
theorem dL_law_209 : decode cL_law 209 = .ok (.iaload, 1) := by decide +kernel
theorem dL_law_210 : decode cL_law 210 = .ok (.aload_n 0, 1) := by decide +kernel
theorem dL_law_211 : decode cL_law 211 = .ok (.iload_n 3, 1) := by decide +kernel
theorem dL_law_212 : decode cL_law 212 = .ok (.iconst 2, 1) := by decide +kernel
theorem dL_law_213 : decode cL_law 213 = .ok (.iadd, 1) := by decide +kernel
theorem dL_law_214 : decode cL_law 214 = .ok (.iaload, 1) := by decide +kernel
theorem dL_law_215 : decode cL_law 215 = .ok (.invokevirtual 13, 3) := by decide +kernel
theorem dL_law_218 : decode cL_law 218 = .ok (.aload_n 2, 1) := by decide +kernel
theorem dL_law_219 : decode cL_law 219 = .ok (.aload_n 0, 1) := by decide +kernel
theorem dL_law_220 : decode cL_law 220 = .ok (.iload_n 3, 1) := by decide +kernel
theorem dL_law_221 : decode cL_law 221 = .ok (.iconst 1, 1) := by decide +kernel
theorem dL_law_222 : decode cL_law 222 = .ok (.iadd, 1) := by decide +kernel
theorem dL_law_223 : decode cL_law 223 = .ok (.iaload, 1) := by decide +kernel
theorem dL_law_224 : decode cL_law 224 = .ok (.aload_n 0, 1) := by decide +kernel
theorem dL_law_225 : decode cL_law 225 = .ok (.iload_n 3, 1) := by decide +kernel
theorem dL_law_226 : decode cL_law 226 = .ok (.iconst 2, 1) := by decide +kernel
theorem dL_law_227 : decode cL_law 227 = .ok (.iadd, 1) := by decide +kernel
theorem dL_law_228 : decode cL_law 228 = .ok (.iaload, 1) := by decide +kernel
theorem dL_law_229 : decode cL_law 229 = .ok (.invokevirtual 17, 3) := by decide +kernel
theorem dL_law_232 : decode cL_law 232 = .ok (.if_icmp .eq 1420, 3) := by decide +kernel
theorem dL_law_235 : decode cL_law 235 = .ok (.iconst 0, 1) := by decide +kernel
theorem dL_law_236 : decode cL_law 236 = .ok (.ireturn, 1) := by decide +kernel
theorem dL_law_237 : decode cL_law 237 = .ok (.aload_n 1, 1) := by decide +kernel
theorem dL_law_238 : decode cL_law 238 = .ok (.invokevirtual 18, 3) := by decide +kernel
theorem dL_law_241 : decode cL_law 241 = .ok (.aload_n 2, 1) := by decide +kernel
theorem dL_law_242 : decode cL_law 242 = .ok (.invokevirtual 22, 3) := by decide +kernel
theorem dL_law_245 : decode cL_law 245 = .ok (.if_icmp .eq 1407, 3) := by decide +kernel
theorem dL_law_248 : decode cL_law 248 = .ok (.iconst 0, 1) := by decide +kernel
theorem dL_law_249 : decode cL_law 249 = .ok (.ireturn, 1) := by decide +kernel
theorem dL_law_250 : decode cL_law 250 = .ok (.aload_n 1, 1) := by decide +kernel
theorem dL_law_251 : decode cL_law 251 = .ok (.aload_n 0, 1) := by decide +kernel
theorem dL_law_252 : decode cL_law 252 = .ok (.iload_n 3, 1) := by decide +kernel
theorem dL_law_253 : decode cL_law 253 = .ok (.iconst 1, 1) := by decide +kernel
theorem dL_law_254 : decode cL_law 254 = .ok (.iadd, 1) := by decide +kernel
theorem dL_law_255 : decode cL_law 255 = .ok (.iaload, 1) := by decide +kernel
theorem dL_law_256 : decode cL_law 256 = .ok (.aload_n 0, 1) := by decide +kernel
theorem dL_law_257 : decode cL_law 257 = .ok (.iload_n 3, 1) := by decide +kernel
theorem dL_law_258 : decode cL_law 258 = .ok (.iconst 2, 1) := by decide +kernel
theorem dL_law_259 : decode cL_law 259 = .ok (.iadd, 1) := by decide +kernel
theorem dL_law_260 : decode cL_law 260 = .ok (.iaload, 1) := by decide +kernel
theorem dL_law_261 : decode cL_law 261 = .ok (.invokevirtual 23, 3) := by decide +kernel
theorem dL_law_264 : decode cL_law 264 = .ok (.aload_n 2, 1) := by decide +kernel
theorem dL_law_265 : decode cL_law 265 = .ok (.aload_n 0, 1) := by decide +kernel
theorem dL_law_266 : decode cL_law 266 = .ok (.iload_n 3, 1) := by decide +kernel
theorem dL_law_267 : decode cL_law 267 = .ok (.iconst 1, 1) := by decide +kernel
theorem dL_law_268 : decode cL_law 268 = .ok (.iadd, 1) := by decide +kernel
theorem dL_law_269 : decode cL_law 269 = .ok (.iaload, 1) := by decide +kernel
theorem dL_law_270 : decode cL_law 270 = .ok (.aload_n 0, 1) := by decide +kernel
theorem dL_law_271 : decode cL_law 271 = .ok (.iload_n 3, 1) := by decide +kernel
theorem dL_law_272 : decode cL_law 272 = .ok (.iconst 2, 1) := by decide +kernel
theorem dL_law_273 : decode cL_law 273 = .ok (.iadd, 1) := by decide +kernel
theorem dL_law_274 : decode cL_law 274 = .ok (.iaload, 1) := by decide +kernel
theorem dL_law_275 : decode cL_law 275 = .ok (.invokevirtual 26, 3) := by decide +kernel
theorem dL_law_278 : decode cL_law 278 = .ok (.if_icmp .eq 1374, 3) := by decide +kernel
theorem dL_law_281 : decode cL_law 281 = .ok (.iconst 0, 1) := by decide +kernel
theorem dL_law_282 : decode cL_law 282 = .ok (.ireturn, 1) := by decide +kernel
theorem dL_law_283 : decode cL_law 283 = .ok (.aload_n 1, 1) := by decide +kernel
theorem dL_law_284 : decode cL_law 284 = .ok (.aload_n 0, 1) := by decide +kernel
theorem dL_law_285 : decode cL_law 285 = .ok (.iload_n 3, 1) := by decide +kernel
theorem dL_law_286 : decode cL_law 286 = .ok (.iconst 1, 1) := by decide +kernel
theorem dL_law_287 : decode cL_law 287 = .ok (.iadd, 1) := by decide +kernel
theorem dL_law_288 : decode cL_law 288 = .ok (.iaload, 1) := by decide +kernel
theorem dL_law_289 : decode cL_law 289 = .ok (.aload_n 0, 1) := by decide +kernel
theorem dL_law_290 : decode cL_law 290 = .ok (.iload_n 3, 1) := by decide +kernel
theorem dL_law_291 : decode cL_law 291 = .ok (.iconst 2, 1) := by decide +kernel
theorem dL_law_292 : decode cL_law 292 = .ok (.iadd, 1) := by decide +kernel
theorem dL_law_293 : decode cL_law 293 = .ok (.iaload, 1) := by decide +kernel
theorem dL_law_294 : decode cL_law 294 = .ok (.aload_n 0, 1) := by decide +kernel
theorem dL_law_295 : decode cL_law 295 = .ok (.iload_n 3, 1) := by decide +kernel
theorem dL_law_296 : decode cL_law 296 = .ok (.iconst 3, 1) := by decide +kernel
theorem dL_law_297 : decode cL_law 297 = .ok (.iadd, 1) := by decide +kernel
theorem dL_law_298 : decode cL_law 298 = .ok (.iaload, 1) := by decide +kernel
theorem dL_law_299 : decode cL_law 299 = .ok (.invokevirtual 27, 3) := by decide +kernel
theorem dL_law_302 : decode cL_law 302 = .ok (.aload_n 2, 1) := by decide +kernel
theorem dL_law_303 : decode cL_law 303 = .ok (.aload_n 0, 1) := by decide +kernel
theorem dL_law_304 : decode cL_law 304 = .ok (.iload_n 3, 1) := by decide +kernel
theorem dL_law_305 : decode cL_law 305 = .ok (.iconst 1, 1) := by decide +kernel
theorem dL_law_306 : decode cL_law 306 = .ok (.iadd, 1) := by decide +kernel
theorem dL_law_307 : decode cL_law 307 = .ok (.iaload, 1) := by decide +kernel
theorem dL_law_308 : decode cL_law 308 = .ok (.aload_n 0, 1) := by decide +kernel
theorem dL_law_309 : decode cL_law 309 = .ok (.iload_n 3, 1) := by decide +kernel
theorem dL_law_310 : decode cL_law 310 = .ok (.iconst 2, 1) := by decide +kernel
theorem dL_law_311 : decode cL_law 311 = .ok (.iadd, 1) := by decide +kernel
theorem dL_law_312 : decode cL_law 312 = .ok (.iaload, 1) := by decide +kernel
theorem dL_law_313 : decode cL_law 313 = .ok (.aload_n 0, 1) := by decide +kernel
theorem dL_law_314 : decode cL_law 314 = .ok (.iload_n 3, 1) := by decide +kernel
theorem dL_law_315 : decode cL_law 315 = .ok (.iconst 3, 1) := by decide +kernel
theorem dL_law_316 : decode cL_law 316 = .ok (.iadd, 1) := by decide +kernel
theorem dL_law_317 : decode cL_law 317 = .ok (.iaload, 1) := by decide +kernel
theorem dL_law_318 : decode cL_law 318 = .ok (.invokevirtual 31, 3) := by decide +kernel
theorem dL_law_321 : decode cL_law 321 = .ok (.if_icmp .eq 1331, 3) := by decide +kernel
theorem dL_law_324 : decode cL_law 324 = .ok (.iconst 0, 1) := by decide +kernel
theorem dL_law_325 : decode cL_law 325 = .ok (.ireturn, 1) := by decide +kernel
theorem dL_law_326 : decode cL_law 326 = .ok (.aload_n 1, 1) := by decide +kernel
theorem dL_law_327 : decode cL_law 327 = .ok (.invokevirtual 32, 3) := by decide +kernel
theorem dL_law_330 : decode cL_law 330 = .ok (.aload_n 2, 1) := by decide +kernel
theorem dL_law_331 : decode cL_law 331 = .ok (.invokevirtual 35, 3) := by decide +kernel
theorem dL_law_334 : decode cL_law 334 = .ok (.if_icmp .eq 1318, 3) := by decide +kernel
theorem dL_law_337 : decode cL_law 337 = .ok (.iconst 0, 1) := by decide +kernel
theorem dL_law_338 : decode cL_law 338 = .ok (.ireturn, 1) := by decide +kernel
theorem dL_law_339 : decode cL_law 339 = .ok (.aload_n 1, 1) := by decide +kernel
theorem dL_law_340 : decode cL_law 340 = .ok (.aload_n 0, 1) := by decide +kernel
theorem dL_law_341 : decode cL_law 341 = .ok (.iload_n 3, 1) := by decide +kernel
theorem dL_law_342 : decode cL_law 342 = .ok (.iconst 1, 1) := by decide +kernel
theorem dL_law_343 : decode cL_law 343 = .ok (.iadd, 1) := by decide +kernel
theorem dL_law_344 : decode cL_law 344 = .ok (.iaload, 1) := by decide +kernel
theorem dL_law_345 : decode cL_law 345 = .ok (.aload_n 0, 1) := by decide +kernel
theorem dL_law_346 : decode cL_law 346 = .ok (.iload_n 3, 1) := by decide +kernel
theorem dL_law_347 : decode cL_law 347 = .ok (.iconst 2, 1) := by decide +kernel
theorem dL_law_348 : decode cL_law 348 = .ok (.iadd, 1) := by decide +kernel
theorem dL_law_349 : decode cL_law 349 = .ok (.iaload, 1) := by decide +kernel
theorem dL_law_350 : decode cL_law 350 = .ok (.aload_n 0, 1) := by decide +kernel
theorem dL_law_351 : decode cL_law 351 = .ok (.iload_n 3, 1) := by decide +kernel
theorem dL_law_352 : decode cL_law 352 = .ok (.iconst 3, 1) := by decide +kernel
theorem dL_law_353 : decode cL_law 353 = .ok (.iadd, 1) := by decide +kernel
theorem dL_law_354 : decode cL_law 354 = .ok (.iaload, 1) := by decide +kernel
theorem dL_law_355 : decode cL_law 355 = .ok (.invokevirtual 36, 3) := by decide +kernel
theorem dL_law_358 : decode cL_law 358 = .ok (.aload_n 2, 1) := by decide +kernel
theorem dL_law_359 : decode cL_law 359 = .ok (.aload_n 0, 1) := by decide +kernel
theorem dL_law_360 : decode cL_law 360 = .ok (.iload_n 3, 1) := by decide +kernel
theorem dL_law_361 : decode cL_law 361 = .ok (.iconst 1, 1) := by decide +kernel
theorem dL_law_362 : decode cL_law 362 = .ok (.iadd, 1) := by decide +kernel
theorem dL_law_363 : decode cL_law 363 = .ok (.iaload, 1) := by decide +kernel
theorem dL_law_364 : decode cL_law 364 = .ok (.aload_n 0, 1) := by decide +kernel
theorem dL_law_365 : decode cL_law 365 = .ok (.iload_n 3, 1) := by decide +kernel
theorem dL_law_366 : decode cL_law 366 = .ok (.iconst 2, 1) := by decide +kernel
theorem dL_law_367 : decode cL_law 367 = .ok (.iadd, 1) := by decide +kernel
theorem dL_law_368 : decode cL_law 368 = .ok (.iaload, 1) := by decide +kernel
theorem dL_law_369 : decode cL_law 369 = .ok (.aload_n 0, 1) := by decide +kernel
theorem dL_law_370 : decode cL_law 370 = .ok (.iload_n 3, 1) := by decide +kernel
theorem dL_law_371 : decode cL_law 371 = .ok (.iconst 3, 1) := by decide +kernel
theorem dL_law_372 : decode cL_law 372 = .ok (.iadd, 1) := by decide +kernel
theorem dL_law_373 : decode cL_law 373 = .ok (.iaload, 1) := by decide +kernel
theorem dL_law_374 : decode cL_law 374 = .ok (.invokevirtual 39, 3) := by decide +kernel
theorem dL_law_377 : decode cL_law 377 = .ok (.if_icmp .eq 1275, 3) := by decide +kernel
theorem dL_law_380 : decode cL_law 380 = .ok (.iconst 0, 1) := by decide +kernel
theorem dL_law_381 : decode cL_law 381 = .ok (.ireturn, 1) := by decide +kernel
theorem dL_law_382 : decode cL_law 382 = .ok (.aload_n 1, 1) := by decide +kernel
theorem dL_law_383 : decode cL_law 383 = .ok (.aload_n 0, 1) := by decide +kernel
theorem dL_law_384 : decode cL_law 384 = .ok (.iload_n 3, 1) := by decide +kernel
theorem dL_law_385 : decode cL_law 385 = .ok (.iconst 1, 1) := by decide +kernel
theorem dL_law_386 : decode cL_law 386 = .ok (.iadd, 1) := by decide +kernel
theorem dL_law_387 : decode cL_law 387 = .ok (.iaload, 1) := by decide +kernel
theorem dL_law_388 : decode cL_law 388 = .ok (.aload_n 0, 1) := by decide +kernel
theorem dL_law_389 : decode cL_law 389 = .ok (.iload_n 3, 1) := by decide +kernel
theorem dL_law_390 : decode cL_law 390 = .ok (.iconst 2, 1) := by decide +kernel
theorem dL_law_391 : decode cL_law 391 = .ok (.iadd, 1) := by decide +kernel
theorem dL_law_392 : decode cL_law 392 = .ok (.iaload, 1) := by decide +kernel
theorem dL_law_393 : decode cL_law 393 = .ok (.aload_n 0, 1) := by decide +kernel
theorem dL_law_394 : decode cL_law 394 = .ok (.iload_n 3, 1) := by decide +kernel
theorem dL_law_395 : decode cL_law 395 = .ok (.iconst 3, 1) := by decide +kernel
theorem dL_law_396 : decode cL_law 396 = .ok (.iadd, 1) := by decide +kernel
theorem dL_law_397 : decode cL_law 397 = .ok (.iaload, 1) := by decide +kernel
theorem dL_law_398 : decode cL_law 398 = .ok (.aload_n 0, 1) := by decide +kernel
theorem dL_law_399 : decode cL_law 399 = .ok (.iload_n 3, 1) := by decide +kernel
theorem dL_law_400 : decode cL_law 400 = .ok (.iconst 4, 1) := by decide +kernel
theorem dL_law_401 : decode cL_law 401 = .ok (.iadd, 1) := by decide +kernel
theorem dL_law_402 : decode cL_law 402 = .ok (.iaload, 1) := by decide +kernel
theorem dL_law_403 : decode cL_law 403 = .ok (.invokevirtual 40, 3) := by decide +kernel
theorem dL_law_406 : decode cL_law 406 = .ok (.aload_n 2, 1) := by decide +kernel
theorem dL_law_407 : decode cL_law 407 = .ok (.aload_n 0, 1) := by decide +kernel
theorem dL_law_408 : decode cL_law 408 = .ok (.iload_n 3, 1) := by decide +kernel
theorem dL_law_409 : decode cL_law 409 = .ok (.iconst 1, 1) := by decide +kernel
theorem dL_law_410 : decode cL_law 410 = .ok (.iadd, 1) := by decide +kernel
theorem dL_law_411 : decode cL_law 411 = .ok (.iaload, 1) := by decide +kernel
theorem dL_law_412 : decode cL_law 412 = .ok (.aload_n 0, 1) := by decide +kernel
theorem dL_law_413 : decode cL_law 413 = .ok (.iload_n 3, 1) := by decide +kernel
theorem dL_law_414 : decode cL_law 414 = .ok (.iconst 2, 1) := by decide +kernel
theorem dL_law_415 : decode cL_law 415 = .ok (.iadd, 1) := by decide +kernel
theorem dL_law_416 : decode cL_law 416 = .ok (.iaload, 1) := by decide +kernel
theorem dL_law_417 : decode cL_law 417 = .ok (.aload_n 0, 1) := by decide +kernel
theorem dL_law_418 : decode cL_law 418 = .ok (.iload_n 3, 1) := by decide +kernel
theorem dL_law_419 : decode cL_law 419 = .ok (.iconst 3, 1) := by decide +kernel
theorem dL_law_420 : decode cL_law 420 = .ok (.iadd, 1) := by decide +kernel
theorem dL_law_421 : decode cL_law 421 = .ok (.iaload, 1) := by decide +kernel
theorem dL_law_422 : decode cL_law 422 = .ok (.aload_n 0, 1) := by decide +kernel
theorem dL_law_423 : decode cL_law 423 = .ok (.iload_n 3, 1) := by decide +kernel
theorem dL_law_424 : decode cL_law 424 = .ok (.iconst 4, 1) := by decide +kernel
theorem dL_law_425 : decode cL_law 425 = .ok (.iadd, 1) := by decide +kernel
theorem dL_law_426 : decode cL_law 426 = .ok (.iaload, 1) := by decide +kernel
theorem dL_law_427 : decode cL_law 427 = .ok (.invokevirtual 44, 3) := by decide +kernel
theorem dL_law_430 : decode cL_law 430 = .ok (.if_icmp .eq 1222, 3) := by decide +kernel
theorem dL_law_433 : decode cL_law 433 = .ok (.iconst 0, 1) := by decide +kernel
theorem dL_law_434 : decode cL_law 434 = .ok (.ireturn, 1) := by decide +kernel
theorem dL_law_435 : decode cL_law 435 = .ok (.aload_n 1, 1) := by decide +kernel
theorem dL_law_436 : decode cL_law 436 = .ok (.aload_n 0, 1) := by decide +kernel
theorem dL_law_437 : decode cL_law 437 = .ok (.iload_n 3, 1) := by decide +kernel
theorem dL_law_438 : decode cL_law 438 = .ok (.iconst 1, 1) := by decide +kernel
theorem dL_law_439 : decode cL_law 439 = .ok (.iadd, 1) := by decide +kernel
theorem dL_law_440 : decode cL_law 440 = .ok (.iaload, 1) := by decide +kernel
theorem dL_law_441 : decode cL_law 441 = .ok (.aload_n 0, 1) := by decide +kernel
theorem dL_law_442 : decode cL_law 442 = .ok (.iload_n 3, 1) := by decide +kernel
theorem dL_law_443 : decode cL_law 443 = .ok (.iconst 2, 1) := by decide +kernel
theorem dL_law_444 : decode cL_law 444 = .ok (.iadd, 1) := by decide +kernel
theorem dL_law_445 : decode cL_law 445 = .ok (.iaload, 1) := by decide +kernel
theorem dL_law_446 : decode cL_law 446 = .ok (.invokevirtual 45, 3) := by decide +kernel
theorem dL_law_449 : decode cL_law 449 = .ok (.aload_n 2, 1) := by decide +kernel
theorem dL_law_450 : decode cL_law 450 = .ok (.aload_n 0, 1) := by decide +kernel
theorem dL_law_451 : decode cL_law 451 = .ok (.iload_n 3, 1) := by decide +kernel
theorem dL_law_452 : decode cL_law 452 = .ok (.iconst 1, 1) := by decide +kernel
theorem dL_law_453 : decode cL_law 453 = .ok (.iadd, 1) := by decide +kernel
theorem dL_law_454 : decode cL_law 454 = .ok (.iaload, 1) := by decide +kernel
theorem dL_law_455 : decode cL_law 455 = .ok (.aload_n 0, 1) := by decide +kernel
theorem dL_law_456 : decode cL_law 456 = .ok (.iload_n 3, 1) := by decide +kernel
theorem dL_law_457 : decode cL_law 457 = .ok (.iconst 2, 1) := by decide +kernel
theorem dL_law_458 : decode cL_law 458 = .ok (.iadd, 1) := by decide +kernel
theorem dL_law_459 : decode cL_law 459 = .ok (.iaload, 1) := by decide +kernel
theorem dL_law_460 : decode cL_law 460 = .ok (.invokevirtual 48, 3) := by decide +kernel
theorem dL_law_463 : decode cL_law 463 = .ok (.if_icmp .eq 1189, 3) := by decide +kernel
theorem dL_law_466 : decode cL_law 466 = .ok (.iconst 0, 1) := by decide +kernel
theorem dL_law_467 : decode cL_law 467 = .ok (.ireturn, 1) := by decide +kernel
theorem dL_law_468 : decode cL_law 468 = .ok (.aload_n 1, 1) := by decide +kernel
theorem dL_law_469 : decode cL_law 469 = .ok (.aload_n 0, 1) := by decide +kernel
theorem dL_law_470 : decode cL_law 470 = .ok (.iload_n 3, 1) := by decide +kernel
theorem dL_law_471 : decode cL_law 471 = .ok (.iconst 1, 1) := by decide +kernel
theorem dL_law_472 : decode cL_law 472 = .ok (.iadd, 1) := by decide +kernel
theorem dL_law_473 : decode cL_law 473 = .ok (.iaload, 1) := by decide +kernel
theorem dL_law_474 : decode cL_law 474 = .ok (.aload_n 0, 1) := by decide +kernel
theorem dL_law_475 : decode cL_law 475 = .ok (.iload_n 3, 1) := by decide +kernel
theorem dL_law_476 : decode cL_law 476 = .ok (.iconst 2, 1) := by decide +kernel
theorem dL_law_477 : decode cL_law 477 = .ok (.iadd, 1) := by decide +kernel
theorem dL_law_478 : decode cL_law 478 = .ok (.iaload, 1) := by decide +kernel
theorem dL_law_479 : decode cL_law 479 = .ok (.aload_n 0, 1) := by decide +kernel
theorem dL_law_480 : decode cL_law 480 = .ok (.iload_n 3, 1) := by decide +kernel
theorem dL_law_481 : decode cL_law 481 = .ok (.iconst 3, 1) := by decide +kernel
theorem dL_law_482 : decode cL_law 482 = .ok (.iadd, 1) := by decide +kernel
theorem dL_law_483 : decode cL_law 483 = .ok (.iaload, 1) := by decide +kernel
theorem dL_law_484 : decode cL_law 484 = .ok (.invokevirtual 49, 3) := by decide +kernel
theorem dL_law_487 : decode cL_law 487 = .ok (.aload_n 2, 1) := by decide +kernel
theorem dL_law_488 : decode cL_law 488 = .ok (.aload_n 0, 1) := by decide +kernel
theorem dL_law_489 : decode cL_law 489 = .ok (.iload_n 3, 1) := by decide +kernel
theorem dL_law_490 : decode cL_law 490 = .ok (.iconst 1, 1) := by decide +kernel
theorem dL_law_491 : decode cL_law 491 = .ok (.iadd, 1) := by decide +kernel
theorem dL_law_492 : decode cL_law 492 = .ok (.iaload, 1) := by decide +kernel
theorem dL_law_493 : decode cL_law 493 = .ok (.aload_n 0, 1) := by decide +kernel
theorem dL_law_494 : decode cL_law 494 = .ok (.iload_n 3, 1) := by decide +kernel
theorem dL_law_495 : decode cL_law 495 = .ok (.iconst 2, 1) := by decide +kernel
theorem dL_law_496 : decode cL_law 496 = .ok (.iadd, 1) := by decide +kernel
theorem dL_law_497 : decode cL_law 497 = .ok (.iaload, 1) := by decide +kernel
theorem dL_law_498 : decode cL_law 498 = .ok (.aload_n 0, 1) := by decide +kernel
theorem dL_law_499 : decode cL_law 499 = .ok (.iload_n 3, 1) := by decide +kernel
theorem dL_law_500 : decode cL_law 500 = .ok (.iconst 3, 1) := by decide +kernel
theorem dL_law_501 : decode cL_law 501 = .ok (.iadd, 1) := by decide +kernel
theorem dL_law_502 : decode cL_law 502 = .ok (.iaload, 1) := by decide +kernel
theorem dL_law_503 : decode cL_law 503 = .ok (.invokevirtual 52, 3) := by decide +kernel
theorem dL_law_506 : decode cL_law 506 = .ok (.if_icmp .eq 1146, 3) := by decide +kernel
theorem dL_law_509 : decode cL_law 509 = .ok (.iconst 0, 1) := by decide +kernel
theorem dL_law_510 : decode cL_law 510 = .ok (.ireturn, 1) := by decide +kernel
theorem dL_law_511 : decode cL_law 511 = .ok (.aload_n 1, 1) := by decide +kernel
theorem dL_law_512 : decode cL_law 512 = .ok (.aload_n 0, 1) := by decide +kernel
theorem dL_law_513 : decode cL_law 513 = .ok (.iload_n 3, 1) := by decide +kernel
theorem dL_law_514 : decode cL_law 514 = .ok (.iconst 1, 1) := by decide +kernel
theorem dL_law_515 : decode cL_law 515 = .ok (.iadd, 1) := by decide +kernel
theorem dL_law_516 : decode cL_law 516 = .ok (.iaload, 1) := by decide +kernel
theorem dL_law_517 : decode cL_law 517 = .ok (.aload_n 0, 1) := by decide +kernel
theorem dL_law_518 : decode cL_law 518 = .ok (.iload_n 3, 1) := by decide +kernel
theorem dL_law_519 : decode cL_law 519 = .ok (.iconst 2, 1) := by decide +kernel
theorem dL_law_520 : decode cL_law 520 = .ok (.iadd, 1) := by decide +kernel
theorem dL_law_521 : decode cL_law 521 = .ok (.iaload, 1) := by decide +kernel
theorem dL_law_522 : decode cL_law 522 = .ok (.aload_n 0, 1) := by decide +kernel
theorem dL_law_523 : decode cL_law 523 = .ok (.iload_n 3, 1) := by decide +kernel
theorem dL_law_524 : decode cL_law 524 = .ok (.iconst 3, 1) := by decide +kernel
theorem dL_law_525 : decode cL_law 525 = .ok (.iadd, 1) := by decide +kernel
theorem dL_law_526 : decode cL_law 526 = .ok (.iaload, 1) := by decide +kernel
theorem dL_law_527 : decode cL_law 527 = .ok (.invokevirtual 53, 3) := by decide +kernel
theorem dL_law_530 : decode cL_law 530 = .ok (.aload_n 2, 1) := by decide +kernel
theorem dL_law_531 : decode cL_law 531 = .ok (.aload_n 0, 1) := by decide +kernel
theorem dL_law_532 : decode cL_law 532 = .ok (.iload_n 3, 1) := by decide +kernel
theorem dL_law_533 : decode cL_law 533 = .ok (.iconst 1, 1) := by decide +kernel
theorem dL_law_534 : decode cL_law 534 = .ok (.iadd, 1) := by decide +kernel
theorem dL_law_535 : decode cL_law 535 = .ok (.iaload, 1) := by decide +kernel
theorem dL_law_536 : decode cL_law 536 = .ok (.aload_n 0, 1) := by decide +kernel
theorem dL_law_537 : decode cL_law 537 = .ok (.iload_n 3, 1) := by decide +kernel
theorem dL_law_538 : decode cL_law 538 = .ok (.iconst 2, 1) := by decide +kernel
theorem dL_law_539 : decode cL_law 539 = .ok (.iadd, 1) := by decide +kernel
theorem dL_law_540 : decode cL_law 540 = .ok (.iaload, 1) := by decide +kernel
theorem dL_law_541 : decode cL_law 541 = .ok (.aload_n 0, 1) := by decide +kernel
theorem dL_law_542 : decode cL_law 542 = .ok (.iload_n 3, 1) := by decide +kernel
theorem dL_law_543 : decode cL_law 543 = .ok (.iconst 3, 1) := by decide +kernel
theorem dL_law_544 : decode cL_law 544 = .ok (.iadd, 1) := by decide +kernel
theorem dL_law_545 : decode cL_law 545 = .ok (.iaload, 1) := by decide +kernel
theorem dL_law_546 : decode cL_law 546 = .ok (.invokevirtual 56, 3) := by decide +kernel
theorem dL_law_549 : decode cL_law 549 = .ok (.if_icmp .eq 1103, 3) := by decide +kernel
theorem dL_law_552 : decode cL_law 552 = .ok (.iconst 0, 1) := by decide +kernel
theorem dL_law_553 : decode cL_law 553 = .ok (.ireturn, 1) := by decide +kernel
theorem dL_law_554 : decode cL_law 554 = .ok (.aload_n 1, 1) := by decide +kernel
theorem dL_law_555 : decode cL_law 555 = .ok (.aload_n 0, 1) := by decide +kernel
theorem dL_law_556 : decode cL_law 556 = .ok (.iload_n 3, 1) := by decide +kernel
theorem dL_law_557 : decode cL_law 557 = .ok (.iconst 1, 1) := by decide +kernel
theorem dL_law_558 : decode cL_law 558 = .ok (.iadd, 1) := by decide +kernel
theorem dL_law_559 : decode cL_law 559 = .ok (.iaload, 1) := by decide +kernel
theorem dL_law_560 : decode cL_law 560 = .ok (.aload_n 0, 1) := by decide +kernel
theorem dL_law_561 : decode cL_law 561 = .ok (.iload_n 3, 1) := by decide +kernel
theorem dL_law_562 : decode cL_law 562 = .ok (.iconst 2, 1) := by decide +kernel
theorem dL_law_563 : decode cL_law 563 = .ok (.iadd, 1) := by decide +kernel
theorem dL_law_564 : decode cL_law 564 = .ok (.iaload, 1) := by decide +kernel
theorem dL_law_565 : decode cL_law 565 = .ok (.aload_n 0, 1) := by decide +kernel
theorem dL_law_566 : decode cL_law 566 = .ok (.iload_n 3, 1) := by decide +kernel
theorem dL_law_567 : decode cL_law 567 = .ok (.iconst 3, 1) := by decide +kernel
theorem dL_law_568 : decode cL_law 568 = .ok (.iadd, 1) := by decide +kernel
theorem dL_law_569 : decode cL_law 569 = .ok (.iaload, 1) := by decide +kernel
theorem dL_law_570 : decode cL_law 570 = .ok (.invokevirtual 57, 3) := by decide +kernel
theorem dL_law_573 : decode cL_law 573 = .ok (.aload_n 2, 1) := by decide +kernel
theorem dL_law_574 : decode cL_law 574 = .ok (.aload_n 0, 1) := by decide +kernel
theorem dL_law_575 : decode cL_law 575 = .ok (.iload_n 3, 1) := by decide +kernel
theorem dL_law_576 : decode cL_law 576 = .ok (.iconst 1, 1) := by decide +kernel
theorem dL_law_577 : decode cL_law 577 = .ok (.iadd, 1) := by decide +kernel
theorem dL_law_578 : decode cL_law 578 = .ok (.iaload, 1) := by decide +kernel
theorem dL_law_579 : decode cL_law 579 = .ok (.aload_n 0, 1) := by decide +kernel
theorem dL_law_580 : decode cL_law 580 = .ok (.iload_n 3, 1) := by decide +kernel
theorem dL_law_581 : decode cL_law 581 = .ok (.iconst 2, 1) := by decide +kernel
theorem dL_law_582 : decode cL_law 582 = .ok (.iadd, 1) := by decide +kernel
theorem dL_law_583 : decode cL_law 583 = .ok (.iaload, 1) := by decide +kernel
theorem dL_law_584 : decode cL_law 584 = .ok (.aload_n 0, 1) := by decide +kernel
theorem dL_law_585 : decode cL_law 585 = .ok (.iload_n 3, 1) := by decide +kernel
theorem dL_law_586 : decode cL_law 586 = .ok (.iconst 3, 1) := by decide +kernel
theorem dL_law_587 : decode cL_law 587 = .ok (.iadd, 1) := by decide +kernel
theorem dL_law_588 : decode cL_law 588 = .ok (.iaload, 1) := by decide +kernel
theorem dL_law_589 : decode cL_law 589 = .ok (.invokevirtual 60, 3) := by decide +kernel
theorem dL_law_592 : decode cL_law 592 = .ok (.if_icmp .eq 1060, 3) := by decide +kernel
theorem dL_law_595 : decode cL_law 595 = .ok (.iconst 0, 1) := by decide +kernel
theorem dL_law_596 : decode cL_law 596 = .ok (.ireturn, 1) := by decide +kernel
theorem dL_law_597 : decode cL_law 597 = .ok (.aload_n 1, 1) := by decide +kernel
theorem dL_law_598 : decode cL_law 598 = .ok (.aload_n 0, 1) := by decide +kernel
theorem dL_law_599 : decode cL_law 599 = .ok (.iload_n 3, 1) := by decide +kernel
theorem dL_law_600 : decode cL_law 600 = .ok (.iconst 1, 1) := by decide +kernel
theorem dL_law_601 : decode cL_law 601 = .ok (.iadd, 1) := by decide +kernel
theorem dL_law_602 : decode cL_law 602 = .ok (.iaload, 1) := by decide +kernel
theorem dL_law_603 : decode cL_law 603 = .ok (.aload_n 0, 1) := by decide +kernel
theorem dL_law_604 : decode cL_law 604 = .ok (.iload_n 3, 1) := by decide +kernel
theorem dL_law_605 : decode cL_law 605 = .ok (.iconst 2, 1) := by decide +kernel
theorem dL_law_606 : decode cL_law 606 = .ok (.iadd, 1) := by decide +kernel
theorem dL_law_607 : decode cL_law 607 = .ok (.iaload, 1) := by decide +kernel
theorem dL_law_608 : decode cL_law 608 = .ok (.aload_n 0, 1) := by decide +kernel
theorem dL_law_609 : decode cL_law 609 = .ok (.iload_n 3, 1) := by decide +kernel
theorem dL_law_610 : decode cL_law 610 = .ok (.iconst 3, 1) := by decide +kernel
theorem dL_law_611 : decode cL_law 611 = .ok (.iadd, 1) := by decide +kernel
theorem dL_law_612 : decode cL_law 612 = .ok (.iaload, 1) := by decide +kernel
theorem dL_law_613 : decode cL_law 613 = .ok (.invokevirtual 61, 3) := by decide +kernel
theorem dL_law_616 : decode cL_law 616 = .ok (.aload_n 2, 1) := by decide +kernel
theorem dL_law_617 : decode cL_law 617 = .ok (.aload_n 0, 1) := by decide +kernel
theorem dL_law_618 : decode cL_law 618 = .ok (.iload_n 3, 1) := by decide +kernel
theorem dL_law_619 : decode cL_law 619 = .ok (.iconst 1, 1) := by decide +kernel
theorem dL_law_620 : decode cL_law 620 = .ok (.iadd, 1) := by decide +kernel
theorem dL_law_621 : decode cL_law 621 = .ok (.iaload, 1) := by decide +kernel
theorem dL_law_622 : decode cL_law 622 = .ok (.aload_n 0, 1) := by decide +kernel
theorem dL_law_623 : decode cL_law 623 = .ok (.iload_n 3, 1) := by decide +kernel
theorem dL_law_624 : decode cL_law 624 = .ok (.iconst 2, 1) := by decide +kernel
theorem dL_law_625 : decode cL_law 625 = .ok (.iadd, 1) := by decide +kernel
theorem dL_law_626 : decode cL_law 626 = .ok (.iaload, 1) := by decide +kernel
theorem dL_law_627 : decode cL_law 627 = .ok (.aload_n 0, 1) := by decide +kernel
theorem dL_law_628 : decode cL_law 628 = .ok (.iload_n 3, 1) := by decide +kernel
theorem dL_law_629 : decode cL_law 629 = .ok (.iconst 3, 1) := by decide +kernel
theorem dL_law_630 : decode cL_law 630 = .ok (.iadd, 1) := by decide +kernel
theorem dL_law_631 : decode cL_law 631 = .ok (.iaload, 1) := by decide +kernel
theorem dL_law_632 : decode cL_law 632 = .ok (.invokevirtual 64, 3) := by decide +kernel
theorem dL_law_635 : decode cL_law 635 = .ok (.if_icmp .eq 1017, 3) := by decide +kernel
theorem dL_law_638 : decode cL_law 638 = .ok (.iconst 0, 1) := by decide +kernel
theorem dL_law_639 : decode cL_law 639 = .ok (.ireturn, 1) := by decide +kernel
theorem dL_law_640 : decode cL_law 640 = .ok (.aload_n 1, 1) := by decide +kernel
theorem dL_law_641 : decode cL_law 641 = .ok (.aload_n 0, 1) := by decide +kernel
theorem dL_law_642 : decode cL_law 642 = .ok (.iload_n 3, 1) := by decide +kernel
theorem dL_law_643 : decode cL_law 643 = .ok (.iconst 1, 1) := by decide +kernel
theorem dL_law_644 : decode cL_law 644 = .ok (.iadd, 1) := by decide +kernel
theorem dL_law_645 : decode cL_law 645 = .ok (.iaload, 1) := by decide +kernel
theorem dL_law_646 : decode cL_law 646 = .ok (.aload_n 0, 1) := by decide +kernel
theorem dL_law_647 : decode cL_law 647 = .ok (.iload_n 3, 1) := by decide +kernel
theorem dL_law_648 : decode cL_law 648 = .ok (.iconst 2, 1) := by decide +kernel
theorem dL_law_649 : decode cL_law 649 = .ok (.iadd, 1) := by decide +kernel
theorem dL_law_650 : decode cL_law 650 = .ok (.iaload, 1) := by decide +kernel
theorem dL_law_651 : decode cL_law 651 = .ok (.aload_n 0, 1) := by decide +kernel
theorem dL_law_652 : decode cL_law 652 = .ok (.iload_n 3, 1) := by decide +kernel
theorem dL_law_653 : decode cL_law 653 = .ok (.iconst 3, 1) := by decide +kernel
theorem dL_law_654 : decode cL_law 654 = .ok (.iadd, 1) := by decide +kernel
theorem dL_law_655 : decode cL_law 655 = .ok (.iaload, 1) := by decide +kernel
theorem dL_law_656 : decode cL_law 656 = .ok (.invokevirtual 65, 3) := by decide +kernel
theorem dL_law_659 : decode cL_law 659 = .ok (.aload_n 2, 1) := by decide +kernel
theorem dL_law_660 : decode cL_law 660 = .ok (.aload_n 0, 1) := by decide +kernel
theorem dL_law_661 : decode cL_law 661 = .ok (.iload_n 3, 1) := by decide +kernel
theorem dL_law_662 : decode cL_law 662 = .ok (.iconst 1, 1) := by decide +kernel
theorem dL_law_663 : decode cL_law 663 = .ok (.iadd, 1) := by decide +kernel
theorem dL_law_664 : decode cL_law 664 = .ok (.iaload, 1) := by decide +kernel
theorem dL_law_665 : decode cL_law 665 = .ok (.aload_n 0, 1) := by decide +kernel
theorem dL_law_666 : decode cL_law 666 = .ok (.iload_n 3, 1) := by decide +kernel
theorem dL_law_667 : decode cL_law 667 = .ok (.iconst 2, 1) := by decide +kernel
theorem dL_law_668 : decode cL_law 668 = .ok (.iadd, 1) := by decide +kernel
theorem dL_law_669 : decode cL_law 669 = .ok (.iaload, 1) := by decide +kernel
theorem dL_law_670 : decode cL_law 670 = .ok (.aload_n 0, 1) := by decide +kernel
theorem dL_law_671 : decode cL_law 671 = .ok (.iload_n 3, 1) := by decide +kernel
theorem dL_law_672 : decode cL_law 672 = .ok (.iconst 3, 1) := by decide +kernel
theorem dL_law_673 : decode cL_law 673 = .ok (.iadd, 1) := by decide +kernel
theorem dL_law_674 : decode cL_law 674 = .ok (.iaload, 1) := by decide +kernel
theorem dL_law_675 : decode cL_law 675 = .ok (.invokevirtual 68, 3) := by decide +kernel
theorem dL_law_678 : decode cL_law 678 = .ok (.if_icmp .eq 974, 3) := by decide +kernel
theorem dL_law_681 : decode cL_law 681 = .ok (.iconst 0, 1) := by decide +kernel
theorem dL_law_682 : decode cL_law 682 = .ok (.ireturn, 1) := by decide +kernel
theorem dL_law_683 : decode cL_law 683 = .ok (.aload_n 1, 1) := by decide +kernel
theorem dL_law_684 : decode cL_law 684 = .ok (.aload_n 0, 1) := by decide +kernel
theorem dL_law_685 : decode cL_law 685 = .ok (.iload_n 3, 1) := by decide +kernel
theorem dL_law_686 : decode cL_law 686 = .ok (.iconst 1, 1) := by decide +kernel
theorem dL_law_687 : decode cL_law 687 = .ok (.iadd, 1) := by decide +kernel
theorem dL_law_688 : decode cL_law 688 = .ok (.iaload, 1) := by decide +kernel
theorem dL_law_689 : decode cL_law 689 = .ok (.aload_n 0, 1) := by decide +kernel
theorem dL_law_690 : decode cL_law 690 = .ok (.iload_n 3, 1) := by decide +kernel
theorem dL_law_691 : decode cL_law 691 = .ok (.iconst 2, 1) := by decide +kernel
theorem dL_law_692 : decode cL_law 692 = .ok (.iadd, 1) := by decide +kernel
theorem dL_law_693 : decode cL_law 693 = .ok (.iaload, 1) := by decide +kernel
theorem dL_law_694 : decode cL_law 694 = .ok (.invokevirtual 69, 3) := by decide +kernel
theorem dL_law_697 : decode cL_law 697 = .ok (.aload_n 2, 1) := by decide +kernel
theorem dL_law_698 : decode cL_law 698 = .ok (.aload_n 0, 1) := by decide +kernel
theorem dL_law_699 : decode cL_law 699 = .ok (.iload_n 3, 1) := by decide +kernel
theorem dL_law_700 : decode cL_law 700 = .ok (.iconst 1, 1) := by decide +kernel
theorem dL_law_701 : decode cL_law 701 = .ok (.iadd, 1) := by decide +kernel
theorem dL_law_702 : decode cL_law 702 = .ok (.iaload, 1) := by decide +kernel
theorem dL_law_703 : decode cL_law 703 = .ok (.aload_n 0, 1) := by decide +kernel
theorem dL_law_704 : decode cL_law 704 = .ok (.iload_n 3, 1) := by decide +kernel
theorem dL_law_705 : decode cL_law 705 = .ok (.iconst 2, 1) := by decide +kernel
theorem dL_law_706 : decode cL_law 706 = .ok (.iadd, 1) := by decide +kernel
theorem dL_law_707 : decode cL_law 707 = .ok (.iaload, 1) := by decide +kernel
theorem dL_law_708 : decode cL_law 708 = .ok (.invokevirtual 72, 3) := by decide +kernel
theorem dL_law_711 : decode cL_law 711 = .ok (.if_icmp .eq 941, 3) := by decide +kernel
theorem dL_law_714 : decode cL_law 714 = .ok (.iconst 0, 1) := by decide +kernel
theorem dL_law_715 : decode cL_law 715 = .ok (.ireturn, 1) := by decide +kernel
theorem dL_law_716 : decode cL_law 716 = .ok (.aload_n 1, 1) := by decide +kernel
theorem dL_law_717 : decode cL_law 717 = .ok (.aload_n 0, 1) := by decide +kernel
theorem dL_law_718 : decode cL_law 718 = .ok (.iload_n 3, 1) := by decide +kernel
theorem dL_law_719 : decode cL_law 719 = .ok (.iconst 1, 1) := by decide +kernel
theorem dL_law_720 : decode cL_law 720 = .ok (.iadd, 1) := by decide +kernel
theorem dL_law_721 : decode cL_law 721 = .ok (.iaload, 1) := by decide +kernel
theorem dL_law_722 : decode cL_law 722 = .ok (.aload_n 0, 1) := by decide +kernel
theorem dL_law_723 : decode cL_law 723 = .ok (.iload_n 3, 1) := by decide +kernel
theorem dL_law_724 : decode cL_law 724 = .ok (.iconst 2, 1) := by decide +kernel
theorem dL_law_725 : decode cL_law 725 = .ok (.iadd, 1) := by decide +kernel
theorem dL_law_726 : decode cL_law 726 = .ok (.iaload, 1) := by decide +kernel
theorem dL_law_727 : decode cL_law 727 = .ok (.invokevirtual 73, 3) := by decide +kernel
theorem dL_law_730 : decode cL_law 730 = .ok (.aload_n 2, 1) := by decide +kernel
theorem dL_law_731 : decode cL_law 731 = .ok (.aload_n 0, 1) := by decide +kernel
theorem dL_law_732 : decode cL_law 732 = .ok (.iload_n 3, 1) := by decide +kernel
theorem dL_law_733 : decode cL_law 733 = .ok (.iconst 1, 1) := by decide +kernel
theorem dL_law_734 : decode cL_law 734 = .ok (.iadd, 1) := by decide +kernel
theorem dL_law_735 : decode cL_law 735 = .ok (.iaload, 1) := by decide +kernel
theorem dL_law_736 : decode cL_law 736 = .ok (.aload_n 0, 1) := by decide +kernel
theorem dL_law_737 : decode cL_law 737 = .ok (.iload_n 3, 1) := by decide +kernel
theorem dL_law_738 : decode cL_law 738 = .ok (.iconst 2, 1) := by decide +kernel
theorem dL_law_739 : decode cL_law 739 = .ok (.iadd, 1) := by decide +kernel
theorem dL_law_740 : decode cL_law 740 = .ok (.iaload, 1) := by decide +kernel
theorem dL_law_741 : decode cL_law 741 = .ok (.invokevirtual 76, 3) := by decide +kernel
theorem dL_law_744 : decode cL_law 744 = .ok (.if_icmp .eq 908, 3) := by decide +kernel
theorem dL_law_747 : decode cL_law 747 = .ok (.iconst 0, 1) := by decide +kernel
theorem dL_law_748 : decode cL_law 748 = .ok (.ireturn, 1) := by decide +kernel
theorem dL_law_749 : decode cL_law 749 = .ok (.aload_n 1, 1) := by decide +kernel
theorem dL_law_750 : decode cL_law 750 = .ok (.aload_n 0, 1) := by decide +kernel
theorem dL_law_751 : decode cL_law 751 = .ok (.iload_n 3, 1) := by decide +kernel
theorem dL_law_752 : decode cL_law 752 = .ok (.iconst 1, 1) := by decide +kernel
theorem dL_law_753 : decode cL_law 753 = .ok (.iadd, 1) := by decide +kernel
theorem dL_law_754 : decode cL_law 754 = .ok (.iaload, 1) := by decide +kernel
theorem dL_law_755 : decode cL_law 755 = .ok (.aload_n 0, 1) := by decide +kernel
theorem dL_law_756 : decode cL_law 756 = .ok (.iload_n 3, 1) := by decide +kernel
theorem dL_law_757 : decode cL_law 757 = .ok (.iconst 2, 1) := by decide +kernel
theorem dL_law_758 : decode cL_law 758 = .ok (.iadd, 1) := by decide +kernel
theorem dL_law_759 : decode cL_law 759 = .ok (.iaload, 1) := by decide +kernel
theorem dL_law_760 : decode cL_law 760 = .ok (.invokevirtual 77, 3) := by decide +kernel
theorem dL_law_763 : decode cL_law 763 = .ok (.aload_n 2, 1) := by decide +kernel
theorem dL_law_764 : decode cL_law 764 = .ok (.aload_n 0, 1) := by decide +kernel
theorem dL_law_765 : decode cL_law 765 = .ok (.iload_n 3, 1) := by decide +kernel
theorem dL_law_766 : decode cL_law 766 = .ok (.iconst 1, 1) := by decide +kernel
theorem dL_law_767 : decode cL_law 767 = .ok (.iadd, 1) := by decide +kernel
theorem dL_law_768 : decode cL_law 768 = .ok (.iaload, 1) := by decide +kernel
theorem dL_law_769 : decode cL_law 769 = .ok (.aload_n 0, 1) := by decide +kernel
theorem dL_law_770 : decode cL_law 770 = .ok (.iload_n 3, 1) := by decide +kernel
theorem dL_law_771 : decode cL_law 771 = .ok (.iconst 2, 1) := by decide +kernel
theorem dL_law_772 : decode cL_law 772 = .ok (.iadd, 1) := by decide +kernel
theorem dL_law_773 : decode cL_law 773 = .ok (.iaload, 1) := by decide +kernel
theorem dL_law_774 : decode cL_law 774 = .ok (.invokevirtual 80, 3) := by decide +kernel
theorem dL_law_777 : decode cL_law 777 = .ok (.if_icmp .eq 875, 3) := by decide +kernel
theorem dL_law_780 : decode cL_law 780 = .ok (.iconst 0, 1) := by decide +kernel
theorem dL_law_781 : decode cL_law 781 = .ok (.ireturn, 1) := by decide +kernel
theorem dL_law_782 : decode cL_law 782 = .ok (.aload_n 1, 1) := by decide +kernel
theorem dL_law_783 : decode cL_law 783 = .ok (.aload_n 0, 1) := by decide +kernel
theorem dL_law_784 : decode cL_law 784 = .ok (.iload_n 3, 1) := by decide +kernel
theorem dL_law_785 : decode cL_law 785 = .ok (.iconst 1, 1) := by decide +kernel
theorem dL_law_786 : decode cL_law 786 = .ok (.iadd, 1) := by decide +kernel
theorem dL_law_787 : decode cL_law 787 = .ok (.iaload, 1) := by decide +kernel
theorem dL_law_788 : decode cL_law 788 = .ok (.aload_n 0, 1) := by decide +kernel
theorem dL_law_789 : decode cL_law 789 = .ok (.iload_n 3, 1) := by decide +kernel
theorem dL_law_790 : decode cL_law 790 = .ok (.iconst 2, 1) := by decide +kernel
theorem dL_law_791 : decode cL_law 791 = .ok (.iadd, 1) := by decide +kernel
theorem dL_law_792 : decode cL_law 792 = .ok (.iaload, 1) := by decide +kernel
theorem dL_law_793 : decode cL_law 793 = .ok (.aload_n 0, 1) := by decide +kernel
theorem dL_law_794 : decode cL_law 794 = .ok (.iload_n 3, 1) := by decide +kernel
theorem dL_law_795 : decode cL_law 795 = .ok (.iconst 3, 1) := by decide +kernel
theorem dL_law_796 : decode cL_law 796 = .ok (.iadd, 1) := by decide +kernel
theorem dL_law_797 : decode cL_law 797 = .ok (.iaload, 1) := by decide +kernel
theorem dL_law_798 : decode cL_law 798 = .ok (.invokevirtual 81, 3) := by decide +kernel
theorem dL_law_801 : decode cL_law 801 = .ok (.aload_n 2, 1) := by decide +kernel
theorem dL_law_802 : decode cL_law 802 = .ok (.aload_n 0, 1) := by decide +kernel
theorem dL_law_803 : decode cL_law 803 = .ok (.iload_n 3, 1) := by decide +kernel
theorem dL_law_804 : decode cL_law 804 = .ok (.iconst 1, 1) := by decide +kernel
theorem dL_law_805 : decode cL_law 805 = .ok (.iadd, 1) := by decide +kernel
theorem dL_law_806 : decode cL_law 806 = .ok (.iaload, 1) := by decide +kernel
theorem dL_law_807 : decode cL_law 807 = .ok (.aload_n 0, 1) := by decide +kernel
theorem dL_law_808 : decode cL_law 808 = .ok (.iload_n 3, 1) := by decide +kernel
theorem dL_law_809 : decode cL_law 809 = .ok (.iconst 2, 1) := by decide +kernel
theorem dL_law_810 : decode cL_law 810 = .ok (.iadd, 1) := by decide +kernel
theorem dL_law_811 : decode cL_law 811 = .ok (.iaload, 1) := by decide +kernel
theorem dL_law_812 : decode cL_law 812 = .ok (.aload_n 0, 1) := by decide +kernel
theorem dL_law_813 : decode cL_law 813 = .ok (.iload_n 3, 1) := by decide +kernel
theorem dL_law_814 : decode cL_law 814 = .ok (.iconst 3, 1) := by decide +kernel
theorem dL_law_815 : decode cL_law 815 = .ok (.iadd, 1) := by decide +kernel
theorem dL_law_816 : decode cL_law 816 = .ok (.iaload, 1) := by decide +kernel
theorem dL_law_817 : decode cL_law 817 = .ok (.invokevirtual 84, 3) := by decide +kernel
theorem dL_law_820 : decode cL_law 820 = .ok (.if_icmp .eq 832, 3) := by decide +kernel
theorem dL_law_823 : decode cL_law 823 = .ok (.iconst 0, 1) := by decide +kernel
theorem dL_law_824 : decode cL_law 824 = .ok (.ireturn, 1) := by decide +kernel
theorem dL_law_825 : decode cL_law 825 = .ok (.aload_n 1, 1) := by decide +kernel
theorem dL_law_826 : decode cL_law 826 = .ok (.aload_n 0, 1) := by decide +kernel
theorem dL_law_827 : decode cL_law 827 = .ok (.iload_n 3, 1) := by decide +kernel
theorem dL_law_828 : decode cL_law 828 = .ok (.iconst 1, 1) := by decide +kernel
theorem dL_law_829 : decode cL_law 829 = .ok (.iadd, 1) := by decide +kernel
theorem dL_law_830 : decode cL_law 830 = .ok (.iaload, 1) := by decide +kernel
theorem dL_law_831 : decode cL_law 831 = .ok (.invokevirtual 85, 3) := by decide +kernel
theorem dL_law_834 : decode cL_law 834 = .ok (.aload_n 2, 1) := by decide +kernel
theorem dL_law_835 : decode cL_law 835 = .ok (.aload_n 0, 1) := by decide +kernel
theorem dL_law_836 : decode cL_law 836 = .ok (.iload_n 3, 1) := by decide +kernel
theorem dL_law_837 : decode cL_law 837 = .ok (.iconst 1, 1) := by decide +kernel
theorem dL_law_838 : decode cL_law 838 = .ok (.iadd, 1) := by decide +kernel
theorem dL_law_839 : decode cL_law 839 = .ok (.iaload, 1) := by decide +kernel
theorem dL_law_840 : decode cL_law 840 = .ok (.invokevirtual 89, 3) := by decide +kernel
theorem dL_law_843 : decode cL_law 843 = .ok (.if_icmp .eq 809, 3) := by decide +kernel
theorem dL_law_846 : decode cL_law 846 = .ok (.iconst 0, 1) := by decide +kernel
theorem dL_law_847 : decode cL_law 847 = .ok (.ireturn, 1) := by decide +kernel
theorem dL_law_848 : decode cL_law 848 = .ok (.aload_n 1, 1) := by decide +kernel
theorem dL_law_849 : decode cL_law 849 = .ok (.aload_n 0, 1) := by decide +kernel
theorem dL_law_850 : decode cL_law 850 = .ok (.iload_n 3, 1) := by decide +kernel
theorem dL_law_851 : decode cL_law 851 = .ok (.iconst 1, 1) := by decide +kernel
theorem dL_law_852 : decode cL_law 852 = .ok (.iadd, 1) := by decide +kernel
theorem dL_law_853 : decode cL_law 853 = .ok (.iaload, 1) := by decide +kernel
theorem dL_law_854 : decode cL_law 854 = .ok (.invokevirtual 90, 3) := by decide +kernel
theorem dL_law_857 : decode cL_law 857 = .ok (.aload_n 2, 1) := by decide +kernel
theorem dL_law_858 : decode cL_law 858 = .ok (.aload_n 0, 1) := by decide +kernel
theorem dL_law_859 : decode cL_law 859 = .ok (.iload_n 3, 1) := by decide +kernel
theorem dL_law_860 : decode cL_law 860 = .ok (.iconst 1, 1) := by decide +kernel
theorem dL_law_861 : decode cL_law 861 = .ok (.iadd, 1) := by decide +kernel
theorem dL_law_862 : decode cL_law 862 = .ok (.iaload, 1) := by decide +kernel
theorem dL_law_863 : decode cL_law 863 = .ok (.invokevirtual 93, 3) := by decide +kernel
theorem dL_law_866 : decode cL_law 866 = .ok (.if_icmp .eq 786, 3) := by decide +kernel
theorem dL_law_869 : decode cL_law 869 = .ok (.iconst 0, 1) := by decide +kernel
theorem dL_law_870 : decode cL_law 870 = .ok (.ireturn, 1) := by decide +kernel
theorem dL_law_871 : decode cL_law 871 = .ok (.aload_n 1, 1) := by decide +kernel
theorem dL_law_872 : decode cL_law 872 = .ok (.invokevirtual 94, 3) := by decide +kernel
theorem dL_law_875 : decode cL_law 875 = .ok (.aload_n 2, 1) := by decide +kernel
theorem dL_law_876 : decode cL_law 876 = .ok (.invokevirtual 97, 3) := by decide +kernel
theorem dL_law_879 : decode cL_law 879 = .ok (.if_icmp .eq 773, 3) := by decide +kernel
theorem dL_law_882 : decode cL_law 882 = .ok (.iconst 0, 1) := by decide +kernel
theorem dL_law_883 : decode cL_law 883 = .ok (.ireturn, 1) := by decide +kernel
theorem dL_law_884 : decode cL_law 884 = .ok (.aload_n 1, 1) := by decide +kernel
theorem dL_law_885 : decode cL_law 885 = .ok (.aload_n 0, 1) := by decide +kernel
theorem dL_law_886 : decode cL_law 886 = .ok (.iload_n 3, 1) := by decide +kernel
theorem dL_law_887 : decode cL_law 887 = .ok (.iconst 1, 1) := by decide +kernel
theorem dL_law_888 : decode cL_law 888 = .ok (.iadd, 1) := by decide +kernel
theorem dL_law_889 : decode cL_law 889 = .ok (.iaload, 1) := by decide +kernel
theorem dL_law_890 : decode cL_law 890 = .ok (.aload_n 0, 1) := by decide +kernel
theorem dL_law_891 : decode cL_law 891 = .ok (.iload_n 3, 1) := by decide +kernel
theorem dL_law_892 : decode cL_law 892 = .ok (.iconst 2, 1) := by decide +kernel
theorem dL_law_893 : decode cL_law 893 = .ok (.iadd, 1) := by decide +kernel
theorem dL_law_894 : decode cL_law 894 = .ok (.iaload, 1) := by decide +kernel
theorem dL_law_895 : decode cL_law 895 = .ok (.aload_n 0, 1) := by decide +kernel
theorem dL_law_896 : decode cL_law 896 = .ok (.iload_n 3, 1) := by decide +kernel
theorem dL_law_897 : decode cL_law 897 = .ok (.iconst 3, 1) := by decide +kernel
theorem dL_law_898 : decode cL_law 898 = .ok (.iadd, 1) := by decide +kernel
theorem dL_law_899 : decode cL_law 899 = .ok (.iaload, 1) := by decide +kernel
theorem dL_law_900 : decode cL_law 900 = .ok (.invokevirtual 98, 3) := by decide +kernel
theorem dL_law_903 : decode cL_law 903 = .ok (.aload_n 2, 1) := by decide +kernel
theorem dL_law_904 : decode cL_law 904 = .ok (.aload_n 0, 1) := by decide +kernel
theorem dL_law_905 : decode cL_law 905 = .ok (.iload_n 3, 1) := by decide +kernel
theorem dL_law_906 : decode cL_law 906 = .ok (.iconst 1, 1) := by decide +kernel
theorem dL_law_907 : decode cL_law 907 = .ok (.iadd, 1) := by decide +kernel
theorem dL_law_908 : decode cL_law 908 = .ok (.iaload, 1) := by decide +kernel
theorem dL_law_909 : decode cL_law 909 = .ok (.aload_n 0, 1) := by decide +kernel
theorem dL_law_910 : decode cL_law 910 = .ok (.iload_n 3, 1) := by decide +kernel
theorem dL_law_911 : decode cL_law 911 = .ok (.iconst 2, 1) := by decide +kernel
theorem dL_law_912 : decode cL_law 912 = .ok (.iadd, 1) := by decide +kernel
theorem dL_law_913 : decode cL_law 913 = .ok (.iaload, 1) := by decide +kernel
theorem dL_law_914 : decode cL_law 914 = .ok (.aload_n 0, 1) := by decide +kernel
theorem dL_law_915 : decode cL_law 915 = .ok (.iload_n 3, 1) := by decide +kernel
theorem dL_law_916 : decode cL_law 916 = .ok (.iconst 3, 1) := by decide +kernel
theorem dL_law_917 : decode cL_law 917 = .ok (.iadd, 1) := by decide +kernel
theorem dL_law_918 : decode cL_law 918 = .ok (.iaload, 1) := by decide +kernel
theorem dL_law_919 : decode cL_law 919 = .ok (.invokevirtual 101, 3) := by decide +kernel
theorem dL_law_922 : decode cL_law 922 = .ok (.if_icmp .eq 730, 3) := by decide +kernel
theorem dL_law_925 : decode cL_law 925 = .ok (.iconst 0, 1) := by decide +kernel
theorem dL_law_926 : decode cL_law 926 = .ok (.ireturn, 1) := by decide +kernel
theorem dL_law_927 : decode cL_law 927 = .ok (.aload_n 1, 1) := by decide +kernel
theorem dL_law_928 : decode cL_law 928 = .ok (.aload_n 0, 1) := by decide +kernel
theorem dL_law_929 : decode cL_law 929 = .ok (.iload_n 3, 1) := by decide +kernel
theorem dL_law_930 : decode cL_law 930 = .ok (.iconst 1, 1) := by decide +kernel
theorem dL_law_931 : decode cL_law 931 = .ok (.iadd, 1) := by decide +kernel
theorem dL_law_932 : decode cL_law 932 = .ok (.iaload, 1) := by decide +kernel
theorem dL_law_933 : decode cL_law 933 = .ok (.aload_n 0, 1) := by decide +kernel
theorem dL_law_934 : decode cL_law 934 = .ok (.iload_n 3, 1) := by decide +kernel
theorem dL_law_935 : decode cL_law 935 = .ok (.iconst 2, 1) := by decide +kernel
theorem dL_law_936 : decode cL_law 936 = .ok (.iadd, 1) := by decide +kernel
theorem dL_law_937 : decode cL_law 937 = .ok (.iaload, 1) := by decide +kernel
theorem dL_law_938 : decode cL_law 938 = .ok (.invokevirtual 102, 3) := by decide +kernel
theorem dL_law_941 : decode cL_law 941 = .ok (.aload_n 2, 1) := by decide +kernel
theorem dL_law_942 : decode cL_law 942 = .ok (.aload_n 0, 1) := by decide +kernel
theorem dL_law_943 : decode cL_law 943 = .ok (.iload_n 3, 1) := by decide +kernel
theorem dL_law_944 : decode cL_law 944 = .ok (.iconst 1, 1) := by decide +kernel
theorem dL_law_945 : decode cL_law 945 = .ok (.iadd, 1) := by decide +kernel
theorem dL_law_946 : decode cL_law 946 = .ok (.iaload, 1) := by decide +kernel
theorem dL_law_947 : decode cL_law 947 = .ok (.aload_n 0, 1) := by decide +kernel
theorem dL_law_948 : decode cL_law 948 = .ok (.iload_n 3, 1) := by decide +kernel
theorem dL_law_949 : decode cL_law 949 = .ok (.iconst 2, 1) := by decide +kernel
theorem dL_law_950 : decode cL_law 950 = .ok (.iadd, 1) := by decide +kernel
theorem dL_law_951 : decode cL_law 951 = .ok (.iaload, 1) := by decide +kernel
theorem dL_law_952 : decode cL_law 952 = .ok (.invokevirtual 105, 3) := by decide +kernel
theorem dL_law_955 : decode cL_law 955 = .ok (.if_icmp .eq 697, 3) := by decide +kernel
theorem dL_law_958 : decode cL_law 958 = .ok (.iconst 0, 1) := by decide +kernel
theorem dL_law_959 : decode cL_law 959 = .ok (.ireturn, 1) := by decide +kernel
theorem dL_law_960 : decode cL_law 960 = .ok (.aload_n 1, 1) := by decide +kernel
theorem dL_law_961 : decode cL_law 961 = .ok (.aload_n 0, 1) := by decide +kernel
theorem dL_law_962 : decode cL_law 962 = .ok (.iload_n 3, 1) := by decide +kernel
theorem dL_law_963 : decode cL_law 963 = .ok (.iconst 1, 1) := by decide +kernel
theorem dL_law_964 : decode cL_law 964 = .ok (.iadd, 1) := by decide +kernel
theorem dL_law_965 : decode cL_law 965 = .ok (.iaload, 1) := by decide +kernel
theorem dL_law_966 : decode cL_law 966 = .ok (.aload_n 0, 1) := by decide +kernel
theorem dL_law_967 : decode cL_law 967 = .ok (.iload_n 3, 1) := by decide +kernel
theorem dL_law_968 : decode cL_law 968 = .ok (.iconst 2, 1) := by decide +kernel
theorem dL_law_969 : decode cL_law 969 = .ok (.iadd, 1) := by decide +kernel
theorem dL_law_970 : decode cL_law 970 = .ok (.iaload, 1) := by decide +kernel
theorem dL_law_971 : decode cL_law 971 = .ok (.aload_n 0, 1) := by decide +kernel
theorem dL_law_972 : decode cL_law 972 = .ok (.iload_n 3, 1) := by decide +kernel
theorem dL_law_973 : decode cL_law 973 = .ok (.iconst 3, 1) := by decide +kernel
theorem dL_law_974 : decode cL_law 974 = .ok (.iadd, 1) := by decide +kernel
theorem dL_law_975 : decode cL_law 975 = .ok (.iaload, 1) := by decide +kernel
theorem dL_law_976 : decode cL_law 976 = .ok (.invokevirtual 106, 3) := by decide +kernel
theorem dL_law_979 : decode cL_law 979 = .ok (.aload_n 2, 1) := by decide +kernel
theorem dL_law_980 : decode cL_law 980 = .ok (.aload_n 0, 1) := by decide +kernel
theorem dL_law_981 : decode cL_law 981 = .ok (.iload_n 3, 1) := by decide +kernel
theorem dL_law_982 : decode cL_law 982 = .ok (.iconst 1, 1) := by decide +kernel
theorem dL_law_983 : decode cL_law 983 = .ok (.iadd, 1) := by decide +kernel
theorem dL_law_984 : decode cL_law 984 = .ok (.iaload, 1) := by decide +kernel
theorem dL_law_985 : decode cL_law 985 = .ok (.aload_n 0, 1) := by decide +kernel
theorem dL_law_986 : decode cL_law 986 = .ok (.iload_n 3, 1) := by decide +kernel
theorem dL_law_987 : decode cL_law 987 = .ok (.iconst 2, 1) := by decide +kernel
theorem dL_law_988 : decode cL_law 988 = .ok (.iadd, 1) := by decide +kernel
theorem dL_law_989 : decode cL_law 989 = .ok (.iaload, 1) := by decide +kernel
theorem dL_law_990 : decode cL_law 990 = .ok (.aload_n 0, 1) := by decide +kernel
theorem dL_law_991 : decode cL_law 991 = .ok (.iload_n 3, 1) := by decide +kernel
theorem dL_law_992 : decode cL_law 992 = .ok (.iconst 3, 1) := by decide +kernel
theorem dL_law_993 : decode cL_law 993 = .ok (.iadd, 1) := by decide +kernel
theorem dL_law_994 : decode cL_law 994 = .ok (.iaload, 1) := by decide +kernel
theorem dL_law_995 : decode cL_law 995 = .ok (.invokevirtual 109, 3) := by decide +kernel
theorem dL_law_998 : decode cL_law 998 = .ok (.if_icmp .eq 654, 3) := by decide +kernel
theorem dL_law_1001 : decode cL_law 1001 = .ok (.iconst 0, 1) := by decide +kernel
theorem dL_law_1002 : decode cL_law 1002 = .ok (.ireturn, 1) := by decide +kernel
theorem dL_law_1003 : decode cL_law 1003 = .ok (.aload_n 1, 1) := by decide +kernel
theorem dL_law_1004 : decode cL_law 1004 = .ok (.aload_n 0, 1) := by decide +kernel
theorem dL_law_1005 : decode cL_law 1005 = .ok (.iload_n 3, 1) := by decide +kernel
theorem dL_law_1006 : decode cL_law 1006 = .ok (.iconst 1, 1) := by decide +kernel
theorem dL_law_1007 : decode cL_law 1007 = .ok (.iadd, 1) := by decide +kernel
theorem dL_law_1008 : decode cL_law 1008 = .ok (.iaload, 1) := by decide +kernel
theorem dL_law_1009 : decode cL_law 1009 = .ok (.aload_n 0, 1) := by decide +kernel
theorem dL_law_1010 : decode cL_law 1010 = .ok (.iload_n 3, 1) := by decide +kernel
theorem dL_law_1011 : decode cL_law 1011 = .ok (.iconst 2, 1) := by decide +kernel
theorem dL_law_1012 : decode cL_law 1012 = .ok (.iadd, 1) := by decide +kernel
theorem dL_law_1013 : decode cL_law 1013 = .ok (.iaload, 1) := by decide +kernel
theorem dL_law_1014 : decode cL_law 1014 = .ok (.invokevirtual 110, 3) := by decide +kernel
theorem dL_law_1017 : decode cL_law 1017 = .ok (.aload_n 2, 1) := by decide +kernel
theorem dL_law_1018 : decode cL_law 1018 = .ok (.aload_n 0, 1) := by decide +kernel
theorem dL_law_1019 : decode cL_law 1019 = .ok (.iload_n 3, 1) := by decide +kernel
theorem dL_law_1020 : decode cL_law 1020 = .ok (.iconst 1, 1) := by decide +kernel
theorem dL_law_1021 : decode cL_law 1021 = .ok (.iadd, 1) := by decide +kernel
theorem dL_law_1022 : decode cL_law 1022 = .ok (.iaload, 1) := by decide +kernel
theorem dL_law_1023 : decode cL_law 1023 = .ok (.aload_n 0, 1) := by decide +kernel
theorem dL_law_1024 : decode cL_law 1024 = .ok (.iload_n 3, 1) := by decide +kernel
theorem dL_law_1025 : decode cL_law 1025 = .ok (.iconst 2, 1) := by decide +kernel
theorem dL_law_1026 : decode cL_law 1026 = .ok (.iadd, 1) := by decide +kernel
theorem dL_law_1027 : decode cL_law 1027 = .ok (.iaload, 1) := by decide +kernel
theorem dL_law_1028 : decode cL_law 1028 = .ok (.invokevirtual 113, 3) := by decide +kernel
theorem dL_law_1031 : decode cL_law 1031 = .ok (.if_icmp .eq 621, 3) := by decide +kernel
theorem dL_law_1034 : decode cL_law 1034 = .ok (.iconst 0, 1) := by decide +kernel
theorem dL_law_1035 : decode cL_law 1035 = .ok (.ireturn, 1) := by decide +kernel
theorem dL_law_1036 : decode cL_law 1036 = .ok (.aload_n 1, 1) := by decide +kernel
theorem dL_law_1037 : decode cL_law 1037 = .ok (.aload_n 0, 1) := by decide +kernel
theorem dL_law_1038 : decode cL_law 1038 = .ok (.iload_n 3, 1) := by decide +kernel
theorem dL_law_1039 : decode cL_law 1039 = .ok (.iconst 1, 1) := by decide +kernel
theorem dL_law_1040 : decode cL_law 1040 = .ok (.iadd, 1) := by decide +kernel
theorem dL_law_1041 : decode cL_law 1041 = .ok (.iaload, 1) := by decide +kernel
theorem dL_law_1042 : decode cL_law 1042 = .ok (.i2l, 1) := by decide +kernel
theorem dL_law_1043 : decode cL_law 1043 = .ok (.bipush 32, 2) := by decide +kernel
theorem dL_law_1045 : decode cL_law 1045 = .ok (.lshl, 1) := by decide +kernel
theorem dL_law_1046 : decode cL_law 1046 = .ok (.aload_n 0, 1) := by decide +kernel
theorem dL_law_1047 : decode cL_law 1047 = .ok (.iload_n 3, 1) := by decide +kernel
theorem dL_law_1048 : decode cL_law 1048 = .ok (.iconst 2, 1) := by decide +kernel
theorem dL_law_1049 : decode cL_law 1049 = .ok (.iadd, 1) := by decide +kernel
theorem dL_law_1050 : decode cL_law 1050 = .ok (.iaload, 1) := by decide +kernel
theorem dL_law_1051 : decode cL_law 1051 = .ok (.i2l, 1) := by decide +kernel
theorem dL_law_1052 : decode cL_law 1052 = .ok (.ldc2_w 114, 3) := by decide +kernel
theorem dL_law_1055 : decode cL_law 1055 = .ok (.land, 1) := by decide +kernel
theorem dL_law_1056 : decode cL_law 1056 = .ok (.lor, 1) := by decide +kernel
theorem dL_law_1057 : decode cL_law 1057 = .ok (.aload_n 0, 1) := by decide +kernel
theorem dL_law_1058 : decode cL_law 1058 = .ok (.iload_n 3, 1) := by decide +kernel
theorem dL_law_1059 : decode cL_law 1059 = .ok (.iconst 3, 1) := by decide +kernel
theorem dL_law_1060 : decode cL_law 1060 = .ok (.iadd, 1) := by decide +kernel
theorem dL_law_1061 : decode cL_law 1061 = .ok (.iaload, 1) := by decide +kernel
theorem dL_law_1062 : decode cL_law 1062 = .ok (.invokevirtual 116, 3) := by decide +kernel
theorem dL_law_1065 : decode cL_law 1065 = .ok (.aload_n 2, 1) := by decide +kernel
theorem dL_law_1066 : decode cL_law 1066 = .ok (.aload_n 0, 1) := by decide +kernel
theorem dL_law_1067 : decode cL_law 1067 = .ok (.iload_n 3, 1) := by decide +kernel
theorem dL_law_1068 : decode cL_law 1068 = .ok (.iconst 1, 1) := by decide +kernel
theorem dL_law_1069 : decode cL_law 1069 = .ok (.iadd, 1) := by decide +kernel
theorem dL_law_1070 : decode cL_law 1070 = .ok (.iaload, 1) := by decide +kernel
theorem dL_law_1071 : decode cL_law 1071 = .ok (.i2l, 1) := by decide +kernel
theorem dL_law_1072 : decode cL_law 1072 = .ok (.bipush 32, 2) := by decide +kernel
theorem dL_law_1074 : decode cL_law 1074 = .ok (.lshl, 1) := by decide +kernel
theorem dL_law_1075 : decode cL_law 1075 = .ok (.aload_n 0, 1) := by decide +kernel
theorem dL_law_1076 : decode cL_law 1076 = .ok (.iload_n 3, 1) := by decide +kernel
theorem dL_law_1077 : decode cL_law 1077 = .ok (.iconst 2, 1) := by decide +kernel
theorem dL_law_1078 : decode cL_law 1078 = .ok (.iadd, 1) := by decide +kernel
theorem dL_law_1079 : decode cL_law 1079 = .ok (.iaload, 1) := by decide +kernel
theorem dL_law_1080 : decode cL_law 1080 = .ok (.i2l, 1) := by decide +kernel
theorem dL_law_1081 : decode cL_law 1081 = .ok (.ldc2_w 114, 3) := by decide +kernel
theorem dL_law_1084 : decode cL_law 1084 = .ok (.land, 1) := by decide +kernel
theorem dL_law_1085 : decode cL_law 1085 = .ok (.lor, 1) := by decide +kernel
theorem dL_law_1086 : decode cL_law 1086 = .ok (.aload_n 0, 1) := by decide +kernel
theorem dL_law_1087 : decode cL_law 1087 = .ok (.iload_n 3, 1) := by decide +kernel
theorem dL_law_1088 : decode cL_law 1088 = .ok (.iconst 3, 1) := by decide +kernel
theorem dL_law_1089 : decode cL_law 1089 = .ok (.iadd, 1) := by decide +kernel
theorem dL_law_1090 : decode cL_law 1090 = .ok (.iaload, 1) := by decide +kernel
theorem dL_law_1091 : decode cL_law 1091 = .ok (.invokevirtual 120, 3) := by decide +kernel
theorem dL_law_1094 : decode cL_law 1094 = .ok (.if_icmp .eq 558, 3) := by decide +kernel
theorem dL_law_1097 : decode cL_law 1097 = .ok (.iconst 0, 1) := by decide +kernel
theorem dL_law_1098 : decode cL_law 1098 = .ok (.ireturn, 1) := by decide +kernel
theorem dL_law_1099 : decode cL_law 1099 = .ok (.aload_n 1, 1) := by decide +kernel
theorem dL_law_1100 : decode cL_law 1100 = .ok (.aload_n 0, 1) := by decide +kernel
theorem dL_law_1101 : decode cL_law 1101 = .ok (.iload_n 3, 1) := by decide +kernel
theorem dL_law_1102 : decode cL_law 1102 = .ok (.iconst 1, 1) := by decide +kernel
theorem dL_law_1103 : decode cL_law 1103 = .ok (.iadd, 1) := by decide +kernel
theorem dL_law_1104 : decode cL_law 1104 = .ok (.iaload, 1) := by decide +kernel
theorem dL_law_1105 : decode cL_law 1105 = .ok (.i2l, 1) := by decide +kernel
theorem dL_law_1106 : decode cL_law 1106 = .ok (.bipush 32, 2) := by decide +kernel
theorem dL_law_1108 : decode cL_law 1108 = .ok (.lshl, 1) := by decide +kernel
theorem dL_law_1109 : decode cL_law 1109 = .ok (.aload_n 0, 1) := by decide +kernel
theorem dL_law_1110 : decode cL_law 1110 = .ok (.iload_n 3, 1) := by decide +kernel
theorem dL_law_1111 : decode cL_law 1111 = .ok (.iconst 2, 1) := by decide +kernel
theorem dL_law_1112 : decode cL_law 1112 = .ok (.iadd, 1) := by decide +kernel
theorem dL_law_1113 : decode cL_law 1113 = .ok (.iaload, 1) := by decide +kernel
theorem dL_law_1114 : decode cL_law 1114 = .ok (.i2l, 1) := by decide +kernel
theorem dL_law_1115 : decode cL_law 1115 = .ok (.ldc2_w 114, 3) := by decide +kernel
theorem dL_law_1118 : decode cL_law 1118 = .ok (.land, 1) := by decide +kernel
theorem dL_law_1119 : decode cL_law 1119 = .ok (.lor, 1) := by decide +kernel
theorem dL_law_1120 : decode cL_law 1120 = .ok (.aload_n 0, 1) := by decide +kernel
theorem dL_law_1121 : decode cL_law 1121 = .ok (.iload_n 3, 1) := by decide +kernel
theorem dL_law_1122 : decode cL_law 1122 = .ok (.iconst 3, 1) := by decide +kernel
theorem dL_law_1123 : decode cL_law 1123 = .ok (.iadd, 1) := by decide +kernel
theorem dL_law_1124 : decode cL_law 1124 = .ok (.iaload, 1) := by decide +kernel
theorem dL_law_1125 : decode cL_law 1125 = .ok (.aload_n 0, 1) := by decide +kernel
theorem dL_law_1126 : decode cL_law 1126 = .ok (.iload_n 3, 1) := by decide +kernel
theorem dL_law_1127 : decode cL_law 1127 = .ok (.iconst 4, 1) := by decide +kernel
theorem dL_law_1128 : decode cL_law 1128 = .ok (.iadd, 1) := by decide +kernel
theorem dL_law_1129 : decode cL_law 1129 = .ok (.iaload, 1) := by decide +kernel
theorem dL_law_1130 : decode cL_law 1130 = .ok (.invokevirtual 121, 3) := by decide +kernel
theorem dL_law_1133 : decode cL_law 1133 = .ok (.aload_n 2, 1) := by decide +kernel
theorem dL_law_1134 : decode cL_law 1134 = .ok (.aload_n 0, 1) := by decide +kernel
theorem dL_law_1135 : decode cL_law 1135 = .ok (.iload_n 3, 1) := by decide +kernel
theorem dL_law_1136 : decode cL_law 1136 = .ok (.iconst 1, 1) := by decide +kernel
theorem dL_law_1137 : decode cL_law 1137 = .ok (.iadd, 1) := by decide +kernel
theorem dL_law_1138 : decode cL_law 1138 = .ok (.iaload, 1) := by decide +kernel
theorem dL_law_1139 : decode cL_law 1139 = .ok (.i2l, 1) := by decide +kernel
theorem dL_law_1140 : decode cL_law 1140 = .ok (.bipush 32, 2) := by decide +kernel
theorem dL_law_1142 : decode cL_law 1142 = .ok (.lshl, 1) := by decide +kernel
theorem dL_law_1143 : decode cL_law 1143 = .ok (.aload_n 0, 1) := by decide +kernel
theorem dL_law_1144 : decode cL_law 1144 = .ok (.iload_n 3, 1) := by decide +kernel
theorem dL_law_1145 : decode cL_law 1145 = .ok (.iconst 2, 1) := by decide +kernel
theorem dL_law_1146 : decode cL_law 1146 = .ok (.iadd, 1) := by decide +kernel
theorem dL_law_1147 : decode cL_law 1147 = .ok (.iaload, 1) := by decide +kernel
theorem dL_law_1148 : decode cL_law 1148 = .ok (.i2l, 1) := by decide +kernel
theorem dL_law_1149 : decode cL_law 1149 = .ok (.ldc2_w 114, 3) := by decide +kernel
theorem dL_law_1152 : decode cL_law 1152 = .ok (.land, 1) := by decide +kernel
theorem dL_law_1153 : decode cL_law 1153 = .ok (.lor, 1) := by decide +kernel
theorem dL_law_1154 : decode cL_law 1154 = .ok (.aload_n 0, 1) := by decide +kernel
theorem dL_law_1155 : decode cL_law 1155 = .ok (.iload_n 3, 1) := by decide +kernel
theorem dL_law_1156 : decode cL_law 1156 = .ok (.iconst 3, 1) := by decide +kernel
theorem dL_law_1157 : decode cL_law 1157 = .ok (.iadd, 1) := by decide +kernel
theorem dL_law_1158 : decode cL_law 1158 = .ok (.iaload, 1) := by decide +kernel
theorem dL_law_1159 : decode cL_law 1159 = .ok (.aload_n 0, 1) := by decide +kernel
theorem dL_law_1160 : decode cL_law 1160 = .ok (.iload_n 3, 1) := by decide +kernel
theorem dL_law_1161 : decode cL_law 1161 = .ok (.iconst 4, 1) := by decide +kernel
theorem dL_law_1162 : decode cL_law 1162 = .ok (.iadd, 1) := by decide +kernel
theorem dL_law_1163 : decode cL_law 1163 = .ok (.iaload, 1) := by decide +kernel
theorem dL_law_1164 : decode cL_law 1164 = .ok (.invokevirtual 125, 3) := by decide +kernel
theorem dL_law_1167 : decode cL_law 1167 = .ok (.if_icmp .eq 485, 3) := by decide +kernel
theorem dL_law_1170 : decode cL_law 1170 = .ok (.iconst 0, 1) := by decide +kernel
theorem dL_law_1171 : decode cL_law 1171 = .ok (.ireturn, 1) := by decide +kernel
theorem dL_law_1172 : decode cL_law 1172 = .ok (.aload_n 1, 1) := by decide +kernel
theorem dL_law_1173 : decode cL_law 1173 = .ok (.aload_n 0, 1) := by decide +kernel
theorem dL_law_1174 : decode cL_law 1174 = .ok (.iload_n 3, 1) := by decide +kernel
theorem dL_law_1175 : decode cL_law 1175 = .ok (.iconst 1, 1) := by decide +kernel
theorem dL_law_1176 : decode cL_law 1176 = .ok (.iadd, 1) := by decide +kernel
theorem dL_law_1177 : decode cL_law 1177 = .ok (.iaload, 1) := by decide +kernel
theorem dL_law_1178 : decode cL_law 1178 = .ok (.i2l, 1) := by decide +kernel
theorem dL_law_1179 : decode cL_law 1179 = .ok (.bipush 32, 2) := by decide +kernel
theorem dL_law_1181 : decode cL_law 1181 = .ok (.lshl, 1) := by decide +kernel
theorem dL_law_1182 : decode cL_law 1182 = .ok (.aload_n 0, 1) := by decide +kernel
theorem dL_law_1183 : decode cL_law 1183 = .ok (.iload_n 3, 1) := by decide +kernel
theorem dL_law_1184 : decode cL_law 1184 = .ok (.iconst 2, 1) := by decide +kernel
theorem dL_law_1185 : decode cL_law 1185 = .ok (.iadd, 1) := by decide +kernel
theorem dL_law_1186 : decode cL_law 1186 = .ok (.iaload, 1) := by decide +kernel
theorem dL_law_1187 : decode cL_law 1187 = .ok (.i2l, 1) := by decide +kernel
theorem dL_law_1188 : decode cL_law 1188 = .ok (.ldc2_w 114, 3) := by decide +kernel
theorem dL_law_1191 : decode cL_law 1191 = .ok (.land, 1) := by decide +kernel
theorem dL_law_1192 : decode cL_law 1192 = .ok (.lor, 1) := by decide +kernel
theorem dL_law_1193 : decode cL_law 1193 = .ok (.aload_n 0, 1) := by decide +kernel
theorem dL_law_1194 : decode cL_law 1194 = .ok (.iload_n 3, 1) := by decide +kernel
theorem dL_law_1195 : decode cL_law 1195 = .ok (.iconst 3, 1) := by decide +kernel
theorem dL_law_1196 : decode cL_law 1196 = .ok (.iadd, 1) := by decide +kernel
theorem dL_law_1197 : decode cL_law 1197 = .ok (.iaload, 1) := by decide +kernel
theorem dL_law_1198 : decode cL_law 1198 = .ok (.invokevirtual 126, 3) := by decide +kernel
theorem dL_law_1201 : decode cL_law 1201 = .ok (.aload_n 2, 1) := by decide +kernel
theorem dL_law_1202 : decode cL_law 1202 = .ok (.aload_n 0, 1) := by decide +kernel
theorem dL_law_1203 : decode cL_law 1203 = .ok (.iload_n 3, 1) := by decide +kernel
theorem dL_law_1204 : decode cL_law 1204 = .ok (.iconst 1, 1) := by decide +kernel
theorem dL_law_1205 : decode cL_law 1205 = .ok (.iadd, 1) := by decide +kernel
theorem dL_law_1206 : decode cL_law 1206 = .ok (.iaload, 1) := by decide +kernel
theorem dL_law_1207 : decode cL_law 1207 = .ok (.i2l, 1) := by decide +kernel
theorem dL_law_1208 : decode cL_law 1208 = .ok (.bipush 32, 2) := by decide +kernel
theorem dL_law_1210 : decode cL_law 1210 = .ok (.lshl, 1) := by decide +kernel
theorem dL_law_1211 : decode cL_law 1211 = .ok (.aload_n 0, 1) := by decide +kernel
theorem dL_law_1212 : decode cL_law 1212 = .ok (.iload_n 3, 1) := by decide +kernel
theorem dL_law_1213 : decode cL_law 1213 = .ok (.iconst 2, 1) := by decide +kernel
theorem dL_law_1214 : decode cL_law 1214 = .ok (.iadd, 1) := by decide +kernel
theorem dL_law_1215 : decode cL_law 1215 = .ok (.iaload, 1) := by decide +kernel
theorem dL_law_1216 : decode cL_law 1216 = .ok (.i2l, 1) := by decide +kernel
theorem dL_law_1217 : decode cL_law 1217 = .ok (.ldc2_w 114, 3) := by decide +kernel
theorem dL_law_1220 : decode cL_law 1220 = .ok (.land, 1) := by decide +kernel
theorem dL_law_1221 : decode cL_law 1221 = .ok (.lor, 1) := by decide +kernel
theorem dL_law_1222 : decode cL_law 1222 = .ok (.aload_n 0, 1) := by decide +kernel
theorem dL_law_1223 : decode cL_law 1223 = .ok (.iload_n 3, 1) := by decide +kernel
theorem dL_law_1224 : decode cL_law 1224 = .ok (.iconst 3, 1) := by decide +kernel
theorem dL_law_1225 : decode cL_law 1225 = .ok (.iadd, 1) := by decide +kernel
theorem dL_law_1226 : decode cL_law 1226 = .ok (.iaload, 1) := by decide +kernel
theorem dL_law_1227 : decode cL_law 1227 = .ok (.invokevirtual 129, 3) := by decide +kernel
theorem dL_law_1230 : decode cL_law 1230 = .ok (.if_icmp .eq 422, 3) := by decide +kernel
theorem dL_law_1233 : decode cL_law 1233 = .ok (.iconst 0, 1) := by decide +kernel
theorem dL_law_1234 : decode cL_law 1234 = .ok (.ireturn, 1) := by decide +kernel
theorem dL_law_1235 : decode cL_law 1235 = .ok (.aload_n 1, 1) := by decide +kernel
theorem dL_law_1236 : decode cL_law 1236 = .ok (.invokevirtual 130, 3) := by decide +kernel
theorem dL_law_1239 : decode cL_law 1239 = .ok (.aload_n 2, 1) := by decide +kernel
theorem dL_law_1240 : decode cL_law 1240 = .ok (.invokevirtual 133, 3) := by decide +kernel
theorem dL_law_1243 : decode cL_law 1243 = .ok (.if_icmp .eq 409, 3) := by decide +kernel
theorem dL_law_1246 : decode cL_law 1246 = .ok (.iconst 0, 1) := by decide +kernel
theorem dL_law_1247 : decode cL_law 1247 = .ok (.ireturn, 1) := by decide +kernel
theorem dL_law_1248 : decode cL_law 1248 = .ok (.aload_n 1, 1) := by decide +kernel
theorem dL_law_1249 : decode cL_law 1249 = .ok (.invokevirtual 134, 3) := by decide +kernel
theorem dL_law_1252 : decode cL_law 1252 = .ok (.aload_n 2, 1) := by decide +kernel
theorem dL_law_1253 : decode cL_law 1253 = .ok (.invokevirtual 137, 3) := by decide +kernel
theorem dL_law_1256 : decode cL_law 1256 = .ok (.if_icmp .eq 396, 3) := by decide +kernel
theorem dL_law_1259 : decode cL_law 1259 = .ok (.iconst 0, 1) := by decide +kernel
theorem dL_law_1260 : decode cL_law 1260 = .ok (.ireturn, 1) := by decide +kernel
theorem dL_law_1261 : decode cL_law 1261 = .ok (.aload_n 1, 1) := by decide +kernel
theorem dL_law_1262 : decode cL_law 1262 = .ok (.aload_n 0, 1) := by decide +kernel
theorem dL_law_1263 : decode cL_law 1263 = .ok (.iload_n 3, 1) := by decide +kernel
theorem dL_law_1264 : decode cL_law 1264 = .ok (.iconst 1, 1) := by decide +kernel
theorem dL_law_1265 : decode cL_law 1265 = .ok (.iadd, 1) := by decide +kernel
theorem dL_law_1266 : decode cL_law 1266 = .ok (.iaload, 1) := by decide +kernel
theorem dL_law_1267 : decode cL_law 1267 = .ok (.invokevirtual 138, 3) := by decide +kernel
theorem dL_law_1270 : decode cL_law 1270 = .ok (.aload_n 2, 1) := by decide +kernel
theorem dL_law_1271 : decode cL_law 1271 = .ok (.aload_n 0, 1) := by decide +kernel
theorem dL_law_1272 : decode cL_law 1272 = .ok (.iload_n 3, 1) := by decide +kernel
theorem dL_law_1273 : decode cL_law 1273 = .ok (.iconst 1, 1) := by decide +kernel
theorem dL_law_1274 : decode cL_law 1274 = .ok (.iadd, 1) := by decide +kernel
theorem dL_law_1275 : decode cL_law 1275 = .ok (.iaload, 1) := by decide +kernel
theorem dL_law_1276 : decode cL_law 1276 = .ok (.invokevirtual 141, 3) := by decide +kernel
theorem dL_law_1279 : decode cL_law 1279 = .ok (.if_icmp .eq 373, 3) := by decide +kernel
theorem dL_law_1282 : decode cL_law 1282 = .ok (.iconst 0, 1) := by decide +kernel
theorem dL_law_1283 : decode cL_law 1283 = .ok (.ireturn, 1) := by decide +kernel
theorem dL_law_1284 : decode cL_law 1284 = .ok (.aload_n 1, 1) := by decide +kernel
theorem dL_law_1285 : decode cL_law 1285 = .ok (.aload_n 0, 1) := by decide +kernel
theorem dL_law_1286 : decode cL_law 1286 = .ok (.iload_n 3, 1) := by decide +kernel
theorem dL_law_1287 : decode cL_law 1287 = .ok (.iconst 1, 1) := by decide +kernel
theorem dL_law_1288 : decode cL_law 1288 = .ok (.iadd, 1) := by decide +kernel
theorem dL_law_1289 : decode cL_law 1289 = .ok (.iaload, 1) := by decide +kernel
theorem dL_law_1290 : decode cL_law 1290 = .ok (.aload_n 0, 1) := by decide +kernel
theorem dL_law_1291 : decode cL_law 1291 = .ok (.iload_n 3, 1) := by decide +kernel
theorem dL_law_1292 : decode cL_law 1292 = .ok (.iconst 2, 1) := by decide +kernel
theorem dL_law_1293 : decode cL_law 1293 = .ok (.iadd, 1) := by decide +kernel
theorem dL_law_1294 : decode cL_law 1294 = .ok (.iaload, 1) := by decide +kernel
theorem dL_law_1295 : decode cL_law 1295 = .ok (.aload_n 0, 1) := by decide +kernel
theorem dL_law_1296 : decode cL_law 1296 = .ok (.iload_n 3, 1) := by decide +kernel
theorem dL_law_1297 : decode cL_law 1297 = .ok (.iconst 3, 1) := by decide +kernel
theorem dL_law_1298 : decode cL_law 1298 = .ok (.iadd, 1) := by decide +kernel
theorem dL_law_1299 : decode cL_law 1299 = .ok (.iaload, 1) := by decide +kernel
theorem dL_law_1300 : decode cL_law 1300 = .ok (.invokevirtual 142, 3) := by decide +kernel
theorem dL_law_1303 : decode cL_law 1303 = .ok (.aload_n 2, 1) := by decide +kernel
theorem dL_law_1304 : decode cL_law 1304 = .ok (.aload_n 0, 1) := by decide +kernel
theorem dL_law_1305 : decode cL_law 1305 = .ok (.iload_n 3, 1) := by decide +kernel
theorem dL_law_1306 : decode cL_law 1306 = .ok (.iconst 1, 1) := by decide +kernel
theorem dL_law_1307 : decode cL_law 1307 = .ok (.iadd, 1) := by decide +kernel
theorem dL_law_1308 : decode cL_law 1308 = .ok (.iaload, 1) := by decide +kernel
theorem dL_law_1309 : decode cL_law 1309 = .ok (.aload_n 0, 1) := by decide +kernel
theorem dL_law_1310 : decode cL_law 1310 = .ok (.iload_n 3, 1) := by decide +kernel
theorem dL_law_1311 : decode cL_law 1311 = .ok (.iconst 2, 1) := by decide +kernel
theorem dL_law_1312 : decode cL_law 1312 = .ok (.iadd, 1) := by decide +kernel
theorem dL_law_1313 : decode cL_law 1313 = .ok (.iaload, 1) := by decide +kernel
theorem dL_law_1314 : decode cL_law 1314 = .ok (.aload_n 0, 1) := by decide +kernel
theorem dL_law_1315 : decode cL_law 1315 = .ok (.iload_n 3, 1) := by decide +kernel
theorem dL_law_1316 : decode cL_law 1316 = .ok (.iconst 3, 1) := by decide +kernel
theorem dL_law_1317 : decode cL_law 1317 = .ok (.iadd, 1) := by decide +kernel
theorem dL_law_1318 : decode cL_law 1318 = .ok (.iaload, 1) := by decide +kernel
theorem dL_law_1319 : decode cL_law 1319 = .ok (.invokevirtual 145, 3) := by decide +kernel
theorem dL_law_1322 : decode cL_law 1322 = .ok (.if_icmp .eq 330, 3) := by decide +kernel
theorem dL_law_1325 : decode cL_law 1325 = .ok (.iconst 0, 1) := by decide +kernel
theorem dL_law_1326 : decode cL_law 1326 = .ok (.ireturn, 1) := by decide +kernel
theorem dL_law_1327 : decode cL_law 1327 = .ok (.aload_n 1, 1) := by decide +kernel
theorem dL_law_1328 : decode cL_law 1328 = .ok (.aload_n 0, 1) := by decide +kernel
theorem dL_law_1329 : decode cL_law 1329 = .ok (.iload_n 3, 1) := by decide +kernel
theorem dL_law_1330 : decode cL_law 1330 = .ok (.iconst 1, 1) := by decide +kernel
theorem dL_law_1331 : decode cL_law 1331 = .ok (.iadd, 1) := by decide +kernel
theorem dL_law_1332 : decode cL_law 1332 = .ok (.iaload, 1) := by decide +kernel
theorem dL_law_1333 : decode cL_law 1333 = .ok (.invokevirtual 146, 3) := by decide +kernel
theorem dL_law_1336 : decode cL_law 1336 = .ok (.aload_n 2, 1) := by decide +kernel
theorem dL_law_1337 : decode cL_law 1337 = .ok (.aload_n 0, 1) := by decide +kernel
theorem dL_law_1338 : decode cL_law 1338 = .ok (.iload_n 3, 1) := by decide +kernel
theorem dL_law_1339 : decode cL_law 1339 = .ok (.iconst 1, 1) := by decide +kernel
theorem dL_law_1340 : decode cL_law 1340 = .ok (.iadd, 1) := by decide +kernel
theorem dL_law_1341 : decode cL_law 1341 = .ok (.iaload, 1) := by decide +kernel
theorem dL_law_1342 : decode cL_law 1342 = .ok (.invokevirtual 149, 3) := by decide +kernel
theorem dL_law_1345 : decode cL_law 1345 = .ok (.if_icmp .eq 307, 3) := by decide +kernel
theorem dL_law_1348 : decode cL_law 1348 = .ok (.iconst 0, 1) := by decide +kernel
theorem dL_law_1349 : decode cL_law 1349 = .ok (.ireturn, 1) := by decide +kernel
theorem dL_law_1350 : decode cL_law 1350 = .ok (.aload_n 1, 1) := by decide +kernel
theorem dL_law_1351 : decode cL_law 1351 = .ok (.aload_n 0, 1) := by decide +kernel
theorem dL_law_1352 : decode cL_law 1352 = .ok (.iload_n 3, 1) := by decide +kernel
theorem dL_law_1353 : decode cL_law 1353 = .ok (.iconst 1, 1) := by decide +kernel
theorem dL_law_1354 : decode cL_law 1354 = .ok (.iadd, 1) := by decide +kernel
theorem dL_law_1355 : decode cL_law 1355 = .ok (.iaload, 1) := by decide +kernel
theorem dL_law_1356 : decode cL_law 1356 = .ok (.aload_n 0, 1) := by decide +kernel
theorem dL_law_1357 : decode cL_law 1357 = .ok (.iload_n 3, 1) := by decide +kernel
theorem dL_law_1358 : decode cL_law 1358 = .ok (.iconst 2, 1) := by decide +kernel
theorem dL_law_1359 : decode cL_law 1359 = .ok (.iadd, 1) := by decide +kernel
theorem dL_law_1360 : decode cL_law 1360 = .ok (.iaload, 1) := by decide +kernel
theorem dL_law_1361 : decode cL_law 1361 = .ok (.invokevirtual 150, 3) := by decide +kernel
theorem dL_law_1364 : decode cL_law 1364 = .ok (.aload_n 2, 1) := by decide +kernel
theorem dL_law_1365 : decode cL_law 1365 = .ok (.aload_n 0, 1) := by decide +kernel
theorem dL_law_1366 : decode cL_law 1366 = .ok (.iload_n 3, 1) := by decide +kernel
theorem dL_law_1367 : decode cL_law 1367 = .ok (.iconst 1, 1) := by decide +kernel
theorem dL_law_1368 : decode cL_law 1368 = .ok (.iadd, 1) := by decide +kernel
theorem dL_law_1369 : decode cL_law 1369 = .ok (.iaload, 1) := by decide +kernel
theorem dL_law_1370 : decode cL_law 1370 = .ok (.aload_n 0, 1) := by decide +kernel
theorem dL_law_1371 : decode cL_law 1371 = .ok (.iload_n 3, 1) := by decide +kernel
theorem dL_law_1372 : decode cL_law 1372 = .ok (.iconst 2, 1) := by decide +kernel
theorem dL_law_1373 : decode cL_law 1373 = .ok (.iadd, 1) := by decide +kernel
theorem dL_law_1374 : decode cL_law 1374 = .ok (.iaload, 1) := by decide +kernel
theorem dL_law_1375 : decode cL_law 1375 = .ok (.invokevirtual 153, 3) := by decide +kernel
theorem dL_law_1378 : decode cL_law 1378 = .ok (.if_icmp .eq 274, 3) := by decide +kernel
theorem dL_law_1381 : decode cL_law 1381 = .ok (.iconst 0, 1) := by decide +kernel
theorem dL_law_1382 : decode cL_law 1382 = .ok (.ireturn, 1) := by decide +kernel
theorem dL_law_1383 : decode cL_law 1383 = .ok (.aload_n 1, 1) := by decide +kernel
theorem dL_law_1384 : decode cL_law 1384 = .ok (.aload_n 0, 1) := by decide +kernel
theorem dL_law_1385 : decode cL_law 1385 = .ok (.iload_n 3, 1) := by decide +kernel
theorem dL_law_1386 : decode cL_law 1386 = .ok (.iconst 1, 1) := by decide +kernel
theorem dL_law_1387 : decode cL_law 1387 = .ok (.iadd, 1) := by decide +kernel
theorem dL_law_1388 : decode cL_law 1388 = .ok (.iaload, 1) := by decide +kernel
theorem dL_law_1389 : decode cL_law 1389 = .ok (.aload_n 0, 1) := by decide +kernel
theorem dL_law_1390 : decode cL_law 1390 = .ok (.iload_n 3, 1) := by decide +kernel
theorem dL_law_1391 : decode cL_law 1391 = .ok (.iconst 2, 1) := by decide +kernel
theorem dL_law_1392 : decode cL_law 1392 = .ok (.iadd, 1) := by decide +kernel
theorem dL_law_1393 : decode cL_law 1393 = .ok (.iaload, 1) := by decide +kernel
theorem dL_law_1394 : decode cL_law 1394 = .ok (.aload_n 0, 1) := by decide +kernel
theorem dL_law_1395 : decode cL_law 1395 = .ok (.iload_n 3, 1) := by decide +kernel
theorem dL_law_1396 : decode cL_law 1396 = .ok (.iconst 3, 1) := by decide +kernel
theorem dL_law_1397 : decode cL_law 1397 = .ok (.iadd, 1) := by decide +kernel
theorem dL_law_1398 : decode cL_law 1398 = .ok (.iaload, 1) := by decide +kernel
theorem dL_law_1399 : decode cL_law 1399 = .ok (.invokevirtual 154, 3) := by decide +kernel
theorem dL_law_1402 : decode cL_law 1402 = .ok (.aload_n 2, 1) := by decide +kernel
theorem dL_law_1403 : decode cL_law 1403 = .ok (.aload_n 0, 1) := by decide +kernel
theorem dL_law_1404 : decode cL_law 1404 = .ok (.iload_n 3, 1) := by decide +kernel
theorem dL_law_1405 : decode cL_law 1405 = .ok (.iconst 1, 1) := by decide +kernel
theorem dL_law_1406 : decode cL_law 1406 = .ok (.iadd, 1) := by decide +kernel
theorem dL_law_1407 : decode cL_law 1407 = .ok (.iaload, 1) := by decide +kernel
theorem dL_law_1408 : decode cL_law 1408 = .ok (.aload_n 0, 1) := by decide +kernel
theorem dL_law_1409 : decode cL_law 1409 = .ok (.iload_n 3, 1) := by decide +kernel
theorem dL_law_1410 : decode cL_law 1410 = .ok (.iconst 2, 1) := by decide +kernel
theorem dL_law_1411 : decode cL_law 1411 = .ok (.iadd, 1) := by decide +kernel
theorem dL_law_1412 : decode cL_law 1412 = .ok (.iaload, 1) := by decide +kernel
theorem dL_law_1413 : decode cL_law 1413 = .ok (.aload_n 0, 1) := by decide +kernel
theorem dL_law_1414 : decode cL_law 1414 = .ok (.iload_n 3, 1) := by decide +kernel
theorem dL_law_1415 : decode cL_law 1415 = .ok (.iconst 3, 1) := by decide +kernel
theorem dL_law_1416 : decode cL_law 1416 = .ok (.iadd, 1) := by decide +kernel
theorem dL_law_1417 : decode cL_law 1417 = .ok (.iaload, 1) := by decide +kernel
theorem dL_law_1418 : decode cL_law 1418 = .ok (.invokevirtual 157, 3) := by decide +kernel
theorem dL_law_1421 : decode cL_law 1421 = .ok (.if_icmp .eq 231, 3) := by decide +kernel
theorem dL_law_1424 : decode cL_law 1424 = .ok (.iconst 0, 1) := by decide +kernel
theorem dL_law_1425 : decode cL_law 1425 = .ok (.ireturn, 1) := by decide +kernel
theorem dL_law_1426 : decode cL_law 1426 = .ok (.aload_n 1, 1) := by decide +kernel
theorem dL_law_1427 : decode cL_law 1427 = .ok (.aload_n 0, 1) := by decide +kernel
theorem dL_law_1428 : decode cL_law 1428 = .ok (.iload_n 3, 1) := by decide +kernel
theorem dL_law_1429 : decode cL_law 1429 = .ok (.iconst 1, 1) := by decide +kernel
theorem dL_law_1430 : decode cL_law 1430 = .ok (.iadd, 1) := by decide +kernel
theorem dL_law_1431 : decode cL_law 1431 = .ok (.iaload, 1) := by decide +kernel
theorem dL_law_1432 : decode cL_law 1432 = .ok (.aload_n 0, 1) := by decide +kernel
theorem dL_law_1433 : decode cL_law 1433 = .ok (.iload_n 3, 1) := by decide +kernel
theorem dL_law_1434 : decode cL_law 1434 = .ok (.iconst 2, 1) := by decide +kernel
theorem dL_law_1435 : decode cL_law 1435 = .ok (.iadd, 1) := by decide +kernel
theorem dL_law_1436 : decode cL_law 1436 = .ok (.iaload, 1) := by decide +kernel
theorem dL_law_1437 : decode cL_law 1437 = .ok (.aload_n 0, 1) := by decide +kernel
theorem dL_law_1438 : decode cL_law 1438 = .ok (.iload_n 3, 1) := by decide +kernel
theorem dL_law_1439 : decode cL_law 1439 = .ok (.iconst 3, 1) := by decide +kernel
theorem dL_law_1440 : decode cL_law 1440 = .ok (.iadd, 1) := by decide +kernel
theorem dL_law_1441 : decode cL_law 1441 = .ok (.iaload, 1) := by decide +kernel
theorem dL_law_1442 : decode cL_law 1442 = .ok (.i2l, 1) := by decide +kernel
theorem dL_law_1443 : decode cL_law 1443 = .ok (.bipush 32, 2) := by decide +kernel
theorem dL_law_1445 : decode cL_law 1445 = .ok (.lshl, 1) := by decide +kernel
theorem dL_law_1446 : decode cL_law 1446 = .ok (.aload_n 0, 1) := by decide +kernel
theorem dL_law_1447 : decode cL_law 1447 = .ok (.iload_n 3, 1) := by decide +kernel
theorem dL_law_1448 : decode cL_law 1448 = .ok (.iconst 4, 1) := by decide +kernel
theorem dL_law_1449 : decode cL_law 1449 = .ok (.iadd, 1) := by decide +kernel
theorem dL_law_1450 : decode cL_law 1450 = .ok (.iaload, 1) := by decide +kernel
theorem dL_law_1451 : decode cL_law 1451 = .ok (.i2l, 1) := by decide +kernel
theorem dL_law_1452 : decode cL_law 1452 = .ok (.ldc2_w 114, 3) := by decide +kernel
theorem dL_law_1455 : decode cL_law 1455 = .ok (.land, 1) := by decide +kernel
theorem dL_law_1456 : decode cL_law 1456 = .ok (.lor, 1) := by decide +kernel
theorem dL_law_1457 : decode cL_law 1457 = .ok (.invokevirtual 158, 3) := by decide +kernel
theorem dL_law_1460 : decode cL_law 1460 = .ok (.aload_n 2, 1) := by decide +kernel
theorem dL_law_1461 : decode cL_law 1461 = .ok (.aload_n 0, 1) := by decide +kernel
theorem dL_law_1462 : decode cL_law 1462 = .ok (.iload_n 3, 1) := by decide +kernel
theorem dL_law_1463 : decode cL_law 1463 = .ok (.iconst 1, 1) := by decide +kernel
theorem dL_law_1464 : decode cL_law 1464 = .ok (.iadd, 1) := by decide +kernel
theorem dL_law_1465 : decode cL_law 1465 = .ok (.iaload, 1) := by decide +kernel
theorem dL_law_1466 : decode cL_law 1466 = .ok (.aload_n 0, 1) := by decide +kernel
theorem dL_law_1467 : decode cL_law 1467 = .ok (.iload_n 3, 1) := by decide +kernel
theorem dL_law_1468 : decode cL_law 1468 = .ok (.iconst 2, 1) := by decide +kernel
theorem dL_law_1469 : decode cL_law 1469 = .ok (.iadd, 1) := by decide +kernel
theorem dL_law_1470 : decode cL_law 1470 = .ok (.iaload, 1) := by decide +kernel
theorem dL_law_1471 : decode cL_law 1471 = .ok (.aload_n 0, 1) := by decide +kernel
theorem dL_law_1472 : decode cL_law 1472 = .ok (.iload_n 3, 1) := by decide +kernel
theorem dL_law_1473 : decode cL_law 1473 = .ok (.iconst 3, 1) := by decide +kernel
theorem dL_law_1474 : decode cL_law 1474 = .ok (.iadd, 1) := by decide +kernel
theorem dL_law_1475 : decode cL_law 1475 = .ok (.iaload, 1) := by decide +kernel
theorem dL_law_1476 : decode cL_law 1476 = .ok (.i2l, 1) := by decide +kernel
theorem dL_law_1477 : decode cL_law 1477 = .ok (.bipush 32, 2) := by decide +kernel
theorem dL_law_1479 : decode cL_law 1479 = .ok (.lshl, 1) := by decide +kernel
theorem dL_law_1480 : decode cL_law 1480 = .ok (.aload_n 0, 1) := by decide +kernel
theorem dL_law_1481 : decode cL_law 1481 = .ok (.iload_n 3, 1) := by decide +kernel
theorem dL_law_1482 : decode cL_law 1482 = .ok (.iconst 4, 1) := by decide +kernel
theorem dL_law_1483 : decode cL_law 1483 = .ok (.iadd, 1) := by decide +kernel
theorem dL_law_1484 : decode cL_law 1484 = .ok (.iaload, 1) := by decide +kernel
theorem dL_law_1485 : decode cL_law 1485 = .ok (.i2l, 1) := by decide +kernel
theorem dL_law_1486 : decode cL_law 1486 = .ok (.ldc2_w 114, 3) := by decide +kernel
theorem dL_law_1489 : decode cL_law 1489 = .ok (.land, 1) := by decide +kernel
theorem dL_law_1490 : decode cL_law 1490 = .ok (.lor, 1) := by decide +kernel
theorem dL_law_1491 : decode cL_law 1491 = .ok (.invokevirtual 162, 3) := by decide +kernel
theorem dL_law_1494 : decode cL_law 1494 = .ok (.if_icmp .eq 158, 3) := by decide +kernel
theorem dL_law_1497 : decode cL_law 1497 = .ok (.iconst 0, 1) := by decide +kernel
theorem dL_law_1498 : decode cL_law 1498 = .ok (.ireturn, 1) := by decide +kernel
theorem dL_law_1499 : decode cL_law 1499 = .ok (.aload_n 1, 1) := by decide +kernel
theorem dL_law_1500 : decode cL_law 1500 = .ok (.aload_n 0, 1) := by decide +kernel
theorem dL_law_1501 : decode cL_law 1501 = .ok (.iload_n 3, 1) := by decide +kernel
theorem dL_law_1502 : decode cL_law 1502 = .ok (.iconst 1, 1) := by decide +kernel
theorem dL_law_1503 : decode cL_law 1503 = .ok (.iadd, 1) := by decide +kernel
theorem dL_law_1504 : decode cL_law 1504 = .ok (.iaload, 1) := by decide +kernel
theorem dL_law_1505 : decode cL_law 1505 = .ok (.aload_n 0, 1) := by decide +kernel
theorem dL_law_1506 : decode cL_law 1506 = .ok (.iload_n 3, 1) := by decide +kernel
theorem dL_law_1507 : decode cL_law 1507 = .ok (.iconst 2, 1) := by decide +kernel
theorem dL_law_1508 : decode cL_law 1508 = .ok (.iadd, 1) := by decide +kernel
theorem dL_law_1509 : decode cL_law 1509 = .ok (.iaload, 1) := by decide +kernel
theorem dL_law_1510 : decode cL_law 1510 = .ok (.invokevirtual 163, 3) := by decide +kernel
theorem dL_law_1513 : decode cL_law 1513 = .ok (.aload_n 2, 1) := by decide +kernel
theorem dL_law_1514 : decode cL_law 1514 = .ok (.aload_n 0, 1) := by decide +kernel
theorem dL_law_1515 : decode cL_law 1515 = .ok (.iload_n 3, 1) := by decide +kernel
theorem dL_law_1516 : decode cL_law 1516 = .ok (.iconst 1, 1) := by decide +kernel
theorem dL_law_1517 : decode cL_law 1517 = .ok (.iadd, 1) := by decide +kernel
theorem dL_law_1518 : decode cL_law 1518 = .ok (.iaload, 1) := by decide +kernel
theorem dL_law_1519 : decode cL_law 1519 = .ok (.aload_n 0, 1) := by decide +kernel
theorem dL_law_1520 : decode cL_law 1520 = .ok (.iload_n 3, 1) := by decide +kernel
theorem dL_law_1521 : decode cL_law 1521 = .ok (.iconst 2, 1) := by decide +kernel
theorem dL_law_1522 : decode cL_law 1522 = .ok (.iadd, 1) := by decide +kernel
theorem dL_law_1523 : decode cL_law 1523 = .ok (.iaload, 1) := by decide +kernel
theorem dL_law_1524 : decode cL_law 1524 = .ok (.invokevirtual 167, 3) := by decide +kernel
theorem dL_law_1527 : decode cL_law 1527 = .ok (.lcmp, 1) := by decide +kernel
theorem dL_law_1528 : decode cL_law 1528 = .ok (.ifCond .eq 124, 3) := by decide +kernel
theorem dL_law_1531 : decode cL_law 1531 = .ok (.iconst 0, 1) := by decide +kernel
theorem dL_law_1532 : decode cL_law 1532 = .ok (.ireturn, 1) := by decide +kernel
theorem dL_law_1533 : decode cL_law 1533 = .ok (.aload_n 1, 1) := by decide +kernel
theorem dL_law_1534 : decode cL_law 1534 = .ok (.aload_n 0, 1) := by decide +kernel
theorem dL_law_1535 : decode cL_law 1535 = .ok (.iload_n 3, 1) := by decide +kernel
theorem dL_law_1536 : decode cL_law 1536 = .ok (.iconst 1, 1) := by decide +kernel
theorem dL_law_1537 : decode cL_law 1537 = .ok (.iadd, 1) := by decide +kernel
theorem dL_law_1538 : decode cL_law 1538 = .ok (.iaload, 1) := by decide +kernel
theorem dL_law_1539 : decode cL_law 1539 = .ok (.aload_n 0, 1) := by decide +kernel
theorem dL_law_1540 : decode cL_law 1540 = .ok (.iload_n 3, 1) := by decide +kernel
theorem dL_law_1541 : decode cL_law 1541 = .ok (.iconst 2, 1) := by decide +kernel
theorem dL_law_1542 : decode cL_law 1542 = .ok (.iadd, 1) := by decide +kernel
theorem dL_law_1543 : decode cL_law 1543 = .ok (.iaload, 1) := by decide +kernel
theorem dL_law_1544 : decode cL_law 1544 = .ok (.aload_n 0, 1) := by decide +kernel
theorem dL_law_1545 : decode cL_law 1545 = .ok (.iload_n 3, 1) := by decide +kernel
theorem dL_law_1546 : decode cL_law 1546 = .ok (.iconst 3, 1) := by decide +kernel
theorem dL_law_1547 : decode cL_law 1547 = .ok (.iadd, 1) := by decide +kernel
theorem dL_law_1548 : decode cL_law 1548 = .ok (.iaload, 1) := by decide +kernel
theorem dL_law_1549 : decode cL_law 1549 = .ok (.aload_n 0, 1) := by decide +kernel
theorem dL_law_1550 : decode cL_law 1550 = .ok (.iload_n 3, 1) := by decide +kernel
theorem dL_law_1551 : decode cL_law 1551 = .ok (.iconst 4, 1) := by decide +kernel
theorem dL_law_1552 : decode cL_law 1552 = .ok (.iadd, 1) := by decide +kernel
theorem dL_law_1553 : decode cL_law 1553 = .ok (.iaload, 1) := by decide +kernel
theorem dL_law_1554 : decode cL_law 1554 = .ok (.aload_n 0, 1) := by decide +kernel
theorem dL_law_1555 : decode cL_law 1555 = .ok (.iload_n 3, 1) := by decide +kernel
theorem dL_law_1556 : decode cL_law 1556 = .ok (.iconst 5, 1) := by decide +kernel
theorem dL_law_1557 : decode cL_law 1557 = .ok (.iadd, 1) := by decide +kernel
theorem dL_law_1558 : decode cL_law 1558 = .ok (.iaload, 1) := by decide +kernel
theorem dL_law_1559 : decode cL_law 1559 = .ok (.invokevirtual 168, 3) := by decide +kernel
theorem dL_law_1562 : decode cL_law 1562 = .ok (.aload_n 2, 1) := by decide +kernel
theorem dL_law_1563 : decode cL_law 1563 = .ok (.aload_n 0, 1) := by decide +kernel
theorem dL_law_1564 : decode cL_law 1564 = .ok (.iload_n 3, 1) := by decide +kernel
theorem dL_law_1565 : decode cL_law 1565 = .ok (.iconst 1, 1) := by decide +kernel
theorem dL_law_1566 : decode cL_law 1566 = .ok (.iadd, 1) := by decide +kernel
theorem dL_law_1567 : decode cL_law 1567 = .ok (.iaload, 1) := by decide +kernel
theorem dL_law_1568 : decode cL_law 1568 = .ok (.aload_n 0, 1) := by decide +kernel
theorem dL_law_1569 : decode cL_law 1569 = .ok (.iload_n 3, 1) := by decide +kernel
theorem dL_law_1570 : decode cL_law 1570 = .ok (.iconst 2, 1) := by decide +kernel
theorem dL_law_1571 : decode cL_law 1571 = .ok (.iadd, 1) := by decide +kernel
theorem dL_law_1572 : decode cL_law 1572 = .ok (.iaload, 1) := by decide +kernel
theorem dL_law_1573 : decode cL_law 1573 = .ok (.aload_n 0, 1) := by decide +kernel
theorem dL_law_1574 : decode cL_law 1574 = .ok (.iload_n 3, 1) := by decide +kernel
theorem dL_law_1575 : decode cL_law 1575 = .ok (.iconst 3, 1) := by decide +kernel
theorem dL_law_1576 : decode cL_law 1576 = .ok (.iadd, 1) := by decide +kernel
theorem dL_law_1577 : decode cL_law 1577 = .ok (.iaload, 1) := by decide +kernel
theorem dL_law_1578 : decode cL_law 1578 = .ok (.aload_n 0, 1) := by decide +kernel
theorem dL_law_1579 : decode cL_law 1579 = .ok (.iload_n 3, 1) := by decide +kernel
theorem dL_law_1580 : decode cL_law 1580 = .ok (.iconst 4, 1) := by decide +kernel
theorem dL_law_1581 : decode cL_law 1581 = .ok (.iadd, 1) := by decide +kernel
theorem dL_law_1582 : decode cL_law 1582 = .ok (.iaload, 1) := by decide +kernel
theorem dL_law_1583 : decode cL_law 1583 = .ok (.aload_n 0, 1) := by decide +kernel
theorem dL_law_1584 : decode cL_law 1584 = .ok (.iload_n 3, 1) := by decide +kernel
theorem dL_law_1585 : decode cL_law 1585 = .ok (.iconst 5, 1) := by decide +kernel
theorem dL_law_1586 : decode cL_law 1586 = .ok (.iadd, 1) := by decide +kernel
theorem dL_law_1587 : decode cL_law 1587 = .ok (.iaload, 1) := by decide +kernel
theorem dL_law_1588 : decode cL_law 1588 = .ok (.invokevirtual 172, 3) := by decide +kernel
theorem dL_law_1591 : decode cL_law 1591 = .ok (.if_icmp .eq 61, 3) := by decide +kernel
theorem dL_law_1594 : decode cL_law 1594 = .ok (.iconst 0, 1) := by decide +kernel
theorem dL_law_1595 : decode cL_law 1595 = .ok (.ireturn, 1) := by decide +kernel
theorem dL_law_1596 : decode cL_law 1596 = .ok (.aload_n 1, 1) := by decide +kernel
theorem dL_law_1597 : decode cL_law 1597 = .ok (.aload_n 0, 1) := by decide +kernel
theorem dL_law_1598 : decode cL_law 1598 = .ok (.iload_n 3, 1) := by decide +kernel
theorem dL_law_1599 : decode cL_law 1599 = .ok (.iconst 1, 1) := by decide +kernel
theorem dL_law_1600 : decode cL_law 1600 = .ok (.iadd, 1) := by decide +kernel
theorem dL_law_1601 : decode cL_law 1601 = .ok (.iaload, 1) := by decide +kernel
theorem dL_law_1602 : decode cL_law 1602 = .ok (.aload_n 0, 1) := by decide +kernel
theorem dL_law_1603 : decode cL_law 1603 = .ok (.iload_n 3, 1) := by decide +kernel
theorem dL_law_1604 : decode cL_law 1604 = .ok (.iconst 2, 1) := by decide +kernel
theorem dL_law_1605 : decode cL_law 1605 = .ok (.iadd, 1) := by decide +kernel
theorem dL_law_1606 : decode cL_law 1606 = .ok (.iaload, 1) := by decide +kernel
theorem dL_law_1607 : decode cL_law 1607 = .ok (.invokevirtual 173, 3) := by decide +kernel
theorem dL_law_1610 : decode cL_law 1610 = .ok (.aload_n 2, 1) := by decide +kernel
theorem dL_law_1611 : decode cL_law 1611 = .ok (.aload_n 0, 1) := by decide +kernel
theorem dL_law_1612 : decode cL_law 1612 = .ok (.iload_n 3, 1) := by decide +kernel
theorem dL_law_1613 : decode cL_law 1613 = .ok (.iconst 1, 1) := by decide +kernel
theorem dL_law_1614 : decode cL_law 1614 = .ok (.iadd, 1) := by decide +kernel
theorem dL_law_1615 : decode cL_law 1615 = .ok (.iaload, 1) := by decide +kernel
theorem dL_law_1616 : decode cL_law 1616 = .ok (.aload_n 0, 1) := by decide +kernel
theorem dL_law_1617 : decode cL_law 1617 = .ok (.iload_n 3, 1) := by decide +kernel
theorem dL_law_1618 : decode cL_law 1618 = .ok (.iconst 2, 1) := by decide +kernel
theorem dL_law_1619 : decode cL_law 1619 = .ok (.iadd, 1) := by decide +kernel
theorem dL_law_1620 : decode cL_law 1620 = .ok (.iaload, 1) := by decide +kernel
theorem dL_law_1621 : decode cL_law 1621 = .ok (.invokevirtual 176, 3) := by decide +kernel
theorem dL_law_1624 : decode cL_law 1624 = .ok (.if_icmp .eq 28, 3) := by decide +kernel
theorem dL_law_1627 : decode cL_law 1627 = .ok (.iconst 0, 1) := by decide +kernel
theorem dL_law_1628 : decode cL_law 1628 = .ok (.ireturn, 1) := by decide +kernel
theorem dL_law_1629 : decode cL_law 1629 = .ok (.aload_n 1, 1) := by decide +kernel
theorem dL_law_1630 : decode cL_law 1630 = .ok (.aload_n 0, 1) := by decide +kernel
theorem dL_law_1631 : decode cL_law 1631 = .ok (.iload_n 3, 1) := by decide +kernel
theorem dL_law_1632 : decode cL_law 1632 = .ok (.iconst 1, 1) := by decide +kernel
theorem dL_law_1633 : decode cL_law 1633 = .ok (.iadd, 1) := by decide +kernel
theorem dL_law_1634 : decode cL_law 1634 = .ok (.iaload, 1) := by decide +kernel
theorem dL_law_1635 : decode cL_law 1635 = .ok (.invokevirtual 177, 3) := by decide +kernel
theorem dL_law_1638 : decode cL_law 1638 = .ok (.aload_n 2, 1) := by decide +kernel
theorem dL_law_1639 : decode cL_law 1639 = .ok (.aload_n 0, 1) := by decide +kernel
theorem dL_law_1640 : decode cL_law 1640 = .ok (.iload_n 3, 1) := by decide +kernel
theorem dL_law_1641 : decode cL_law 1641 = .ok (.iconst 1, 1) := by decide +kernel
theorem dL_law_1642 : decode cL_law 1642 = .ok (.iadd, 1) := by decide +kernel
theorem dL_law_1643 : decode cL_law 1643 = .ok (.iaload, 1) := by decide +kernel
theorem dL_law_1644 : decode cL_law 1644 = .ok (.invokevirtual 180, 3) := by decide +kernel
theorem dL_law_1647 : decode cL_law 1647 = .ok (.if_icmp .eq 5, 3) := by decide +kernel
theorem dL_law_1650 : decode cL_law 1650 = .ok (.iconst 0, 1) := by decide +kernel
theorem dL_law_1651 : decode cL_law 1651 = .ok (.ireturn, 1) := by decide +kernel
theorem dL_law_1652 : decode cL_law 1652 = .ok (.iinc 3 6, 3) := by decide +kernel
theorem dL_law_1655 : decode cL_law 1655 = .ok (.goto (-1637), 3) := by decide +kernel
theorem dL_law_1658 : decode cL_law 1658 = .ok (.iconst 1, 1) := by decide +kernel
theorem dL_law_1659 : decode cL_law 1659 = .ok (.ireturn, 1) := by decide +kernel
