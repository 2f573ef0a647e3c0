theorem dX11_within_0 : decode cX11_within 0 = .ok (.lload_n 0, 1) := by decide +kernel
theorem dX11_within_1 : decode cX11_within 1 = .ok (.lload_n 2, 1) := by decide +kernel
theorem dX11_within_2 : decode cX11_within 2 = .ok (.lcmp, 1) := by decide +kernel
theorem dX11_within_3 : decode cX11_within 3 = .ok (.ifCond .lt 14, 3) := by decide +kernel
theorem dX11_within_6 : decode cX11_within 6 = .ok (.lload_n 0, 1) := by decide +kernel
theorem dX11_within_7 : decode cX11_within 7 = .ok (.lload 4, 2) := by decide +kernel
theorem dX11_within_9 : decode cX11_within 9 = .ok (.lcmp, 1) := by decide +kernel
theorem dX11_within_10 : decode cX11_within 10 = .ok (.ifCond .gt 7, 3) := by decide +kernel
theorem dX11_within_13 : decode cX11_within 13 = .ok (.iconst 1, 1) := by decide +kernel
theorem dX11_within_14 : decode cX11_within 14 = .ok (.goto 4, 3) := by decide +kernel
theorem dX11_within_17 : decode cX11_within 17 = .ok (.iconst 0, 1) := by decide +kernel
theorem dX11_within_18 : decode cX11_within 18 = .ok (.ireturn, 1) := by decide +kernel
theorem dX11_size_0 : decode cX11_size 0 = .ok (.iload_n 0, 1) := by decide +kernel
theorem dX11_size_1 : decode cX11_size 1 = .ok (.ifCond .ge 8, 3) := by decide +kernel
theorem dX11_size_4 : decode cX11_size 4 = .ok (.iload_n 0, 1) := by decide +kernel
theorem dX11_size_5 : decode cX11_size 5 = .ok (.ineg, 1) := by decide +kernel
theorem dX11_size_6 : decode cX11_size 6 = .ok (.goto 4, 3) := by decide +kernel
theorem dX11_size_9 : decode cX11_size 9 = .ok (.iload_n 0, 1) := by decide +kernel
theorem dX11_size_10 : decode cX11_size 10 = .ok (.ireturn, 1) := by decide +kernel
theorem dX11_init_0 : decode cX11_init 0 = .ok (.aload_n 0, 1) := by decide +kernel
theorem dX11_init_1 : decode cX11_init 1 = .ok (.invokespecial 1, 3) := by decide +kernel
theorem dX11_init_4 : decode cX11_init 4 = .ok (.aload_n 0, 1) := by decide +kernel
theorem dX11_init_5 : decode cX11_init 5 = .ok (.bipush 30, 2) := by decide +kernel
theorem dX11_init_7 : decode cX11_init 7 = .ok (.newarray .int, 2) := by decide +kernel
theorem dX11_init_9 : decode cX11_init 9 = .ok (.putfield 9, 3) := by decide +kernel
theorem dX11_init_12 : decode cX11_init 12 = .ok (.aload_n 0, 1) := by decide +kernel
theorem dX11_init_13 : decode cX11_init 13 = .ok (.bipush 40, 2) := by decide +kernel
theorem dX11_init_15 : decode cX11_init 15 = .ok (.newarray .int, 2) := by decide +kernel
theorem dX11_init_17 : decode cX11_init 17 = .ok (.putfield 13, 3) := by decide +kernel
theorem dX11_init_20 : decode cX11_init 20 = .ok (.aload_n 0, 1) := by decide +kernel
theorem dX11_init_21 : decode cX11_init 21 = .ok (.bipush 40, 2) := by decide +kernel
theorem dX11_init_23 : decode cX11_init 23 = .ok (.newarray .int, 2) := by decide +kernel
theorem dX11_init_25 : decode cX11_init 25 = .ok (.putfield 16, 3) := by decide +kernel
theorem dX11_init_28 : decode cX11_init 28 = .ok (.aload_n 0, 1) := by decide +kernel
theorem dX11_init_29 : decode cX11_init 29 = .ok (.bipush 40, 2) := by decide +kernel
theorem dX11_init_31 : decode cX11_init 31 = .ok (.newarray .int, 2) := by decide +kernel
theorem dX11_init_33 : decode cX11_init 33 = .ok (.putfield 19, 3) := by decide +kernel
theorem dX11_init_36 : decode cX11_init 36 = .ok (.aload_n 0, 1) := by decide +kernel
theorem dX11_init_37 : decode cX11_init 37 = .ok (.bipush 120, 2) := by decide +kernel
theorem dX11_init_39 : decode cX11_init 39 = .ok (.newarray .int, 2) := by decide +kernel
theorem dX11_init_41 : decode cX11_init 41 = .ok (.putfield 22, 3) := by decide +kernel
theorem dX11_init_44 : decode cX11_init 44 = .ok (.aload_n 0, 1) := by decide +kernel
theorem dX11_init_45 : decode cX11_init 45 = .ok (.bipush 120, 2) := by decide +kernel
theorem dX11_init_47 : decode cX11_init 47 = .ok (.newarray .int, 2) := by decide +kernel
theorem dX11_init_49 : decode cX11_init 49 = .ok (.putfield 25, 3) := by decide +kernel
theorem dX11_init_52 : decode cX11_init 52 = .ok (.aload_n 0, 1) := by decide +kernel
theorem dX11_init_53 : decode cX11_init 53 = .ok (.bipush 8, 2) := by decide +kernel
theorem dX11_init_55 : decode cX11_init 55 = .ok (.newarray .int, 2) := by decide +kernel
theorem dX11_init_57 : decode cX11_init 57 = .ok (.putfield 28, 3) := by decide +kernel
theorem dX11_init_60 : decode cX11_init 60 = .ok (.aload_n 0, 1) := by decide +kernel
theorem dX11_init_61 : decode cX11_init 61 = .ok (.iconst 5, 1) := by decide +kernel
theorem dX11_init_62 : decode cX11_init 62 = .ok (.newarray .int, 2) := by decide +kernel
theorem dX11_init_64 : decode cX11_init 64 = .ok (.putfield 31, 3) := by decide +kernel
theorem dX11_init_67 : decode cX11_init 67 = .ok (.aload_n 0, 1) := by decide +kernel
theorem dX11_init_68 : decode cX11_init 68 = .ok (.bipush 6, 2) := by decide +kernel
theorem dX11_init_70 : decode cX11_init 70 = .ok (.newarray .int, 2) := by decide +kernel
theorem dX11_init_72 : decode cX11_init 72 = .ok (.putfield 34, 3) := by decide +kernel
theorem dX11_init_75 : decode cX11_init 75 = .ok (.aload_n 0, 1) := by decide +kernel
theorem dX11_init_76 : decode cX11_init 76 = .ok (.sipush 360, 3) := by decide +kernel
theorem dX11_init_79 : decode cX11_init 79 = .ok (.newarray .int, 2) := by decide +kernel
theorem dX11_init_81 : decode cX11_init 81 = .ok (.putfield 37, 3) := by decide +kernel
theorem dX11_init_84 : decode cX11_init 84 = .ok (.aload_n 0, 1) := by decide +kernel
theorem dX11_init_85 : decode cX11_init 85 = .ok (.sipush 360, 3) := by decide +kernel
theorem dX11_init_88 : decode cX11_init 88 = .ok (.newarray .int, 2) := by decide +kernel
theorem dX11_init_90 : decode cX11_init 90 = .ok (.putfield 40, 3) := by decide +kernel
theorem dX11_init_93 : decode cX11_init 93 = .ok (.aload_n 0, 1) := by decide +kernel
theorem dX11_init_94 : decode cX11_init 94 = .ok (.sipush 200, 3) := by decide +kernel
theorem dX11_init_97 : decode cX11_init 97 = .ok (.newarray .int, 2) := by decide +kernel
theorem dX11_init_99 : decode cX11_init 99 = .ok (.putfield 43, 3) := by decide +kernel
theorem dX11_init_102 : decode cX11_init 102 = .ok (.aload_n 0, 1) := by decide +kernel
theorem dX11_init_103 : decode cX11_init 103 = .ok (.sipush 200, 3) := by decide +kernel
theorem dX11_init_106 : decode cX11_init 106 = .ok (.newarray .int, 2) := by decide +kernel
theorem dX11_init_108 : decode cX11_init 108 = .ok (.putfield 46, 3) := by decide +kernel
theorem dX11_init_111 : decode cX11_init 111 = .ok (.aload_n 0, 1) := by decide +kernel
theorem dX11_init_112 : decode cX11_init 112 = .ok (.sipush 200, 3) := by decide +kernel
theorem dX11_init_115 : decode cX11_init 115 = .ok (.newarray .int, 2) := by decide +kernel
theorem dX11_init_117 : decode cX11_init 117 = .ok (.putfield 49, 3) := by decide +kernel
theorem dX11_init_120 : decode cX11_init 120 = .ok (.aload_n 0, 1) := by decide +kernel
theorem dX11_init_121 : decode cX11_init 121 = .ok (.sipush 200, 3) := by decide +kernel
theorem dX11_init_124 : decode cX11_init 124 = .ok (.newarray .int, 2) := by decide +kernel
theorem dX11_init_126 : decode cX11_init 126 = .ok (.putfield 52, 3) := by decide +kernel
theorem dX11_init_129 : decode cX11_init 129 = .ok (.aload_n 0, 1) := by decide +kernel
theorem dX11_init_130 : decode cX11_init 130 = .ok (.sipush 200, 3) := by decide +kernel
theorem dX11_init_133 : decode cX11_init 133 = .ok (.newarray .int, 2) := by decide +kernel
theorem dX11_init_135 : decode cX11_init 135 = .ok (.putfield 55, 3) := by decide +kernel
theorem dX11_init_138 : decode cX11_init 138 = .ok (.aload_n 0, 1) := by decide +kernel
theorem dX11_init_139 : decode cX11_init 139 = .ok (.sipush 200, 3) := by decide +kernel
theorem dX11_init_142 : decode cX11_init 142 = .ok (.newarray .int, 2) := by decide +kernel
theorem dX11_init_144 : decode cX11_init 144 = .ok (.putfield 58, 3) := by decide +kernel
theorem dX11_init_147 : decode cX11_init 147 = .ok (.aload_n 0, 1) := by decide +kernel
theorem dX11_init_148 : decode cX11_init 148 = .ok (.iconst 4, 1) := by decide +kernel
theorem dX11_init_149 : decode cX11_init 149 = .ok (.newarray .int, 2) := by decide +kernel
theorem dX11_init_151 : decode cX11_init 151 = .ok (.putfield 61, 3) := by decide +kernel
theorem dX11_init_154 : decode cX11_init 154 = .ok (.aload_n 0, 1) := by decide +kernel
theorem dX11_init_155 : decode cX11_init 155 = .ok (.bipush 40, 2) := by decide +kernel
theorem dX11_init_157 : decode cX11_init 157 = .ok (.newarray .int, 2) := by decide +kernel
theorem dX11_init_159 : decode cX11_init 159 = .ok (.putfield 64, 3) := by decide +kernel
theorem dX11_init_162 : decode cX11_init 162 = .ok (.aload_n 0, 1) := by decide +kernel
theorem dX11_init_163 : decode cX11_init 163 = .ok (.bipush 40, 2) := by decide +kernel
theorem dX11_init_165 : decode cX11_init 165 = .ok (.newarray .int, 2) := by decide +kernel
theorem dX11_init_167 : decode cX11_init 167 = .ok (.putfield 67, 3) := by decide +kernel
theorem dX11_init_170 : decode cX11_init 170 = .ok (.aload_n 0, 1) := by decide +kernel
theorem dX11_init_171 : decode cX11_init 171 = .ok (.bipush 40, 2) := by decide +kernel
theorem dX11_init_173 : decode cX11_init 173 = .ok (.newarray .int, 2) := by decide +kernel
theorem dX11_init_175 : decode cX11_init 175 = .ok (.putfield 70, 3) := by decide +kernel
theorem dX11_init_178 : decode cX11_init 178 = .ok (.aload_n 0, 1) := by decide +kernel
theorem dX11_init_179 : decode cX11_init 179 = .ok (.bipush 8, 2) := by decide +kernel
theorem dX11_init_181 : decode cX11_init 181 = .ok (.newarray .int, 2) := by decide +kernel
theorem dX11_init_183 : decode cX11_init 183 = .ok (.putfield 73, 3) := by decide +kernel
theorem dX11_init_186 : decode cX11_init 186 = .ok (.aload_n 0, 1) := by decide +kernel
theorem dX11_init_187 : decode cX11_init 187 = .ok (.bipush 60, 2) := by decide +kernel
theorem dX11_init_189 : decode cX11_init 189 = .ok (.newarray .int, 2) := by decide +kernel
theorem dX11_init_191 : decode cX11_init 191 = .ok (.putfield 76, 3) := by decide +kernel
theorem dX11_init_194 : decode cX11_init 194 = .ok (.aload_n 0, 1) := by decide +kernel
theorem dX11_init_195 : decode cX11_init 195 = .ok (.iconst 5, 1) := by decide +kernel
theorem dX11_init_196 : decode cX11_init 196 = .ok (.newarray .int, 2) := by decide +kernel
theorem dX11_init_198 : decode cX11_init 198 = .ok (.putfield 79, 3) := by decide +kernel
theorem dX11_init_201 : decode cX11_init 201 = .ok (.aload_n 0, 1) := by decide +kernel
theorem dX11_init_202 : decode cX11_init 202 = .ok (.bipush 50, 2) := by decide +kernel
theorem dX11_init_204 : decode cX11_init 204 = .ok (.newarray .int, 2) := by decide +kernel
theorem dX11_init_206 : decode cX11_init 206 = .ok (.putfield 82, 3) := by decide +kernel
theorem dX11_init_209 : decode cX11_init 209 = .ok (.aload_n 0, 1) := by decide +kernel
theorem dX11_init_210 : decode cX11_init 210 = .ok (.bipush 24, 2) := by decide +kernel
theorem dX11_init_212 : decode cX11_init 212 = .ok (.newarray .int, 2) := by decide +kernel
theorem dX11_init_214 : decode cX11_init 214 = .ok (.putfield 85, 3) := by decide +kernel
theorem dX11_init_217 : decode cX11_init 217 = .ok (.aload_n 0, 1) := by decide +kernel
theorem dX11_init_218 : decode cX11_init 218 = .ok (.bipush 6, 2) := by decide +kernel
theorem dX11_init_220 : decode cX11_init 220 = .ok (.newarray .int, 2) := by decide +kernel
theorem dX11_init_222 : decode cX11_init 222 = .ok (.putfield 88, 3) := by decide +kernel
theorem dX11_init_225 : decode cX11_init 225 = .ok (.aload_n 0, 1) := by decide +kernel
theorem dX11_init_226 : decode cX11_init 226 = .ok (.bipush 6, 2) := by decide +kernel
theorem dX11_init_228 : decode cX11_init 228 = .ok (.newarray .int, 2) := by decide +kernel
theorem dX11_init_230 : decode cX11_init 230 = .ok (.putfield 91, 3) := by decide +kernel
theorem dX11_init_233 : decode cX11_init 233 = .ok (.aload_n 0, 1) := by decide +kernel
theorem dX11_init_234 : decode cX11_init 234 = .ok (.sipush 360, 3) := by decide +kernel
theorem dX11_init_237 : decode cX11_init 237 = .ok (.newarray .long, 2) := by decide +kernel
theorem dX11_init_239 : decode cX11_init 239 = .ok (.putfield 94, 3) := by decide +kernel
theorem dX11_init_242 : decode cX11_init 242 = .ok (.aload_n 0, 1) := by decide +kernel
theorem dX11_init_243 : decode cX11_init 243 = .ok (.bipush 60, 2) := by decide +kernel
theorem dX11_init_245 : decode cX11_init 245 = .ok (.newarray .long, 2) := by decide +kernel
theorem dX11_init_247 : decode cX11_init 247 = .ok (.putfield 98, 3) := by decide +kernel
theorem dX11_init_250 : decode cX11_init 250 = .ok (.iconst 0, 1) := by decide +kernel
theorem dX11_init_251 : decode cX11_init 251 = .ok (.istore_n 1, 1) := by decide +kernel
theorem dX11_init_252 : decode cX11_init 252 = .ok (.iload_n 1, 1) := by decide +kernel
theorem dX11_init_253 : decode cX11_init 253 = .ok (.bipush 6, 2) := by decide +kernel
theorem dX11_init_255 : decode cX11_init 255 = .ok (.if_icmp .ge 16, 3) := by decide +kernel
theorem dX11_init_258 : decode cX11_init 258 = .ok (.aload_n 0, 1) := by decide +kernel
theorem dX11_init_259 : decode cX11_init 259 = .ok (.getfield 88, 3) := by decide +kernel
theorem dX11_init_262 : decode cX11_init 262 = .ok (.iload_n 1, 1) := by decide +kernel
theorem dX11_init_263 : decode cX11_init 263 = .ok (.iconst (-1), 1) := by decide +kernel
theorem dX11_init_264 : decode cX11_init 264 = .ok (.iastore, 1) := by decide +kernel
theorem dX11_init_265 : decode cX11_init 265 = .ok (.iinc 1 1, 3) := by decide +kernel
theorem dX11_init_268 : decode cX11_init 268 = .ok (.goto (-16), 3) := by decide +kernel
theorem dX11_init_271 : decode cX11_init 271 = .ok (.aload_n 0, 1) := by decide +kernel
theorem dX11_init_272 : decode cX11_init 272 = .ok (.iconst (-1), 1) := by decide +kernel
theorem dX11_init_273 : decode cX11_init 273 = .ok (.putfield 101, 3) := by decide +kernel
theorem dX11_init_276 : decode cX11_init 276 = .ok (.return_, 1) := by decide +kernel
theorem dX11_becomes_0 : decode cX11_becomes 0 = .ok (.aload_n 0, 1) := by decide +kernel
theorem dX11_becomes_1 : decode cX11_becomes 1 = .ok (.getfield 9, 3) := by decide +kernel
theorem dX11_becomes_4 : decode cX11_becomes 4 = .ok (.iload_n 1, 1) := by decide +kernel
theorem dX11_becomes_5 : decode cX11_becomes 5 = .ok (.iaload, 1) := by decide +kernel
theorem dX11_becomes_6 : decode cX11_becomes 6 = .ok (.istore_n 3, 1) := by decide +kernel
theorem dX11_becomes_7 : decode cX11_becomes 7 = .ok (.iload_n 3, 1) := by decide +kernel
theorem dX11_becomes_8 : decode cX11_becomes 8 = .ok (.iload_n 2, 1) := by decide +kernel
theorem dX11_becomes_9 : decode cX11_becomes 9 = .ok (.if_icmp .ne 5, 3) := by decide +kernel
theorem dX11_becomes_12 : decode cX11_becomes 12 = .ok (.iload_n 3, 1) := by decide +kernel
theorem dX11_becomes_13 : decode cX11_becomes 13 = .ok (.ireturn, 1) := by decide +kernel
theorem dX11_becomes_14 : decode cX11_becomes 14 = .ok (.aload_n 0, 1) := by decide +kernel
theorem dX11_becomes_15 : decode cX11_becomes 15 = .ok (.getfield 105, 3) := by decide +kernel
theorem dX11_becomes_18 : decode cX11_becomes 18 = .ok (.bipush 40, 2) := by decide +kernel
theorem dX11_becomes_20 : decode cX11_becomes 20 = .ok (.if_icmp .ne 77, 3) := by decide +kernel
theorem dX11_becomes_23 : decode cX11_becomes 23 = .ok (.iconst 1, 1) := by decide +kernel
theorem dX11_becomes_24 : decode cX11_becomes 24 = .ok (.istore 4, 2) := by decide +kernel
theorem dX11_becomes_26 : decode cX11_becomes 26 = .ok (.iload 4, 2) := by decide +kernel
theorem dX11_becomes_28 : decode cX11_becomes 28 = .ok (.bipush 40, 2) := by decide +kernel
theorem dX11_becomes_30 : decode cX11_becomes 30 = .ok (.if_icmp .ge 57, 3) := by decide +kernel
theorem dX11_becomes_33 : decode cX11_becomes 33 = .ok (.aload_n 0, 1) := by decide +kernel
theorem dX11_becomes_34 : decode cX11_becomes 34 = .ok (.getfield 13, 3) := by decide +kernel
theorem dX11_becomes_37 : decode cX11_becomes 37 = .ok (.iload 4, 2) := by decide +kernel
theorem dX11_becomes_39 : decode cX11_becomes 39 = .ok (.iconst 1, 1) := by decide +kernel
theorem dX11_becomes_40 : decode cX11_becomes 40 = .ok (.isub, 1) := by decide +kernel
theorem dX11_becomes_41 : decode cX11_becomes 41 = .ok (.aload_n 0, 1) := by decide +kernel
theorem dX11_becomes_42 : decode cX11_becomes 42 = .ok (.getfield 13, 3) := by decide +kernel
theorem dX11_becomes_45 : decode cX11_becomes 45 = .ok (.iload 4, 2) := by decide +kernel
theorem dX11_becomes_47 : decode cX11_becomes 47 = .ok (.iaload, 1) := by decide +kernel
theorem dX11_becomes_48 : decode cX11_becomes 48 = .ok (.iastore, 1) := by decide +kernel
theorem dX11_becomes_49 : decode cX11_becomes 49 = .ok (.aload_n 0, 1) := by decide +kernel
theorem dX11_becomes_50 : decode cX11_becomes 50 = .ok (.getfield 16, 3) := by decide +kernel
theorem dX11_becomes_53 : decode cX11_becomes 53 = .ok (.iload 4, 2) := by decide +kernel
theorem dX11_becomes_55 : decode cX11_becomes 55 = .ok (.iconst 1, 1) := by decide +kernel
theorem dX11_becomes_56 : decode cX11_becomes 56 = .ok (.isub, 1) := by decide +kernel
theorem dX11_becomes_57 : decode cX11_becomes 57 = .ok (.aload_n 0, 1) := by decide +kernel
theorem dX11_becomes_58 : decode cX11_becomes 58 = .ok (.getfield 16, 3) := by decide +kernel
theorem dX11_becomes_61 : decode cX11_becomes 61 = .ok (.iload 4, 2) := by decide +kernel
theorem dX11_becomes_63 : decode cX11_becomes 63 = .ok (.iaload, 1) := by decide +kernel
theorem dX11_becomes_64 : decode cX11_becomes 64 = .ok (.iastore, 1) := by decide +kernel
theorem dX11_becomes_65 : decode cX11_becomes 65 = .ok (.aload_n 0, 1) := by decide +kernel
theorem dX11_becomes_66 : decode cX11_becomes 66 = .ok (.getfield 19, 3) := by decide +kernel
theorem dX11_becomes_69 : decode cX11_becomes 69 = .ok (.iload 4, 2) := by decide +kernel
theorem dX11_becomes_71 : decode cX11_becomes 71 = .ok (.iconst 1, 1) := by decide +kernel
theorem dX11_becomes_72 : decode cX11_becomes 72 = .ok (.isub, 1) := by decide +kernel
theorem dX11_becomes_73 : decode cX11_becomes 73 = .ok (.aload_n 0, 1) := by decide +kernel
theorem dX11_becomes_74 : decode cX11_becomes 74 = .ok (.getfield 19, 3) := by decide +kernel
theorem dX11_becomes_77 : decode cX11_becomes 77 = .ok (.iload 4, 2) := by decide +kernel
theorem dX11_becomes_79 : decode cX11_becomes 79 = .ok (.iaload, 1) := by decide +kernel
theorem dX11_becomes_80 : decode cX11_becomes 80 = .ok (.iastore, 1) := by decide +kernel
theorem dX11_becomes_81 : decode cX11_becomes 81 = .ok (.iinc 4 1, 3) := by decide +kernel
theorem dX11_becomes_84 : decode cX11_becomes 84 = .ok (.goto (-58), 3) := by decide +kernel
theorem dX11_becomes_87 : decode cX11_becomes 87 = .ok (.aload_n 0, 1) := by decide +kernel
theorem dX11_becomes_88 : decode cX11_becomes 88 = .ok (.dup, 1) := by decide +kernel
theorem dX11_becomes_89 : decode cX11_becomes 89 = .ok (.getfield 105, 3) := by decide +kernel
theorem dX11_becomes_92 : decode cX11_becomes 92 = .ok (.iconst 1, 1) := by decide +kernel
theorem dX11_becomes_93 : decode cX11_becomes 93 = .ok (.isub, 1) := by decide +kernel
theorem dX11_becomes_94 : decode cX11_becomes 94 = .ok (.putfield 105, 3) := by decide +kernel
theorem dX11_becomes_97 : decode cX11_becomes 97 = .ok (.aload_n 0, 1) := by decide +kernel
theorem dX11_becomes_98 : decode cX11_becomes 98 = .ok (.getfield 13, 3) := by decide +kernel
theorem dX11_becomes_101 : decode cX11_becomes 101 = .ok (.aload_n 0, 1) := by decide +kernel
theorem dX11_becomes_102 : decode cX11_becomes 102 = .ok (.getfield 105, 3) := by decide +kernel
theorem dX11_becomes_105 : decode cX11_becomes 105 = .ok (.iload_n 1, 1) := by decide +kernel
theorem dX11_becomes_106 : decode cX11_becomes 106 = .ok (.iastore, 1) := by decide +kernel
theorem dX11_becomes_107 : decode cX11_becomes 107 = .ok (.aload_n 0, 1) := by decide +kernel
theorem dX11_becomes_108 : decode cX11_becomes 108 = .ok (.getfield 16, 3) := by decide +kernel
theorem dX11_becomes_111 : decode cX11_becomes 111 = .ok (.aload_n 0, 1) := by decide +kernel
theorem dX11_becomes_112 : decode cX11_becomes 112 = .ok (.getfield 105, 3) := by decide +kernel
theorem dX11_becomes_115 : decode cX11_becomes 115 = .ok (.iload_n 3, 1) := by decide +kernel
theorem dX11_becomes_116 : decode cX11_becomes 116 = .ok (.iastore, 1) := by decide +kernel
theorem dX11_becomes_117 : decode cX11_becomes 117 = .ok (.aload_n 0, 1) := by decide +kernel
theorem dX11_becomes_118 : decode cX11_becomes 118 = .ok (.getfield 19, 3) := by decide +kernel
theorem dX11_becomes_121 : decode cX11_becomes 121 = .ok (.aload_n 0, 1) := by decide +kernel
theorem dX11_becomes_122 : decode cX11_becomes 122 = .ok (.getfield 105, 3) := by decide +kernel
theorem dX11_becomes_125 : decode cX11_becomes 125 = .ok (.iload_n 2, 1) := by decide +kernel
theorem dX11_becomes_126 : decode cX11_becomes 126 = .ok (.iastore, 1) := by decide +kernel
theorem dX11_becomes_127 : decode cX11_becomes 127 = .ok (.aload_n 0, 1) := by decide +kernel
theorem dX11_becomes_128 : decode cX11_becomes 128 = .ok (.dup, 1) := by decide +kernel
theorem dX11_becomes_129 : decode cX11_becomes 129 = .ok (.getfield 105, 3) := by decide +kernel
theorem dX11_becomes_132 : decode cX11_becomes 132 = .ok (.iconst 1, 1) := by decide +kernel
theorem dX11_becomes_133 : decode cX11_becomes 133 = .ok (.iadd, 1) := by decide +kernel
theorem dX11_becomes_134 : decode cX11_becomes 134 = .ok (.putfield 105, 3) := by decide +kernel
theorem dX11_becomes_137 : decode cX11_becomes 137 = .ok (.aload_n 0, 1) := by decide +kernel
theorem dX11_becomes_138 : decode cX11_becomes 138 = .ok (.aload_n 0, 1) := by decide +kernel
theorem dX11_becomes_139 : decode cX11_becomes 139 = .ok (.getfield 105, 3) := by decide +kernel
theorem dX11_becomes_142 : decode cX11_becomes 142 = .ok (.putfield 108, 3) := by decide +kernel
theorem dX11_becomes_145 : decode cX11_becomes 145 = .ok (.aload_n 0, 1) := by decide +kernel
theorem dX11_becomes_146 : decode cX11_becomes 146 = .ok (.getfield 9, 3) := by decide +kernel
theorem dX11_becomes_149 : decode cX11_becomes 149 = .ok (.iload_n 1, 1) := by decide +kernel
theorem dX11_becomes_150 : decode cX11_becomes 150 = .ok (.iload_n 2, 1) := by decide +kernel
theorem dX11_becomes_151 : decode cX11_becomes 151 = .ok (.iastore, 1) := by decide +kernel
theorem dX11_becomes_152 : decode cX11_becomes 152 = .ok (.iload_n 3, 1) := by decide +kernel
theorem dX11_becomes_153 : decode cX11_becomes 153 = .ok (.ireturn, 1) := by decide +kernel
theorem dX11_undo_0 : decode cX11_undo 0 = .ok (.aload_n 0, 1) := by decide +kernel
theorem dX11_undo_1 : decode cX11_undo 1 = .ok (.getfield 105, 3) := by decide +kernel
theorem dX11_undo_4 : decode cX11_undo 4 = .ok (.ifCond .ne 6, 3) := by decide +kernel
theorem dX11_undo_7 : decode cX11_undo 7 = .ok (.bipush (-5), 2) := by decide +kernel
theorem dX11_undo_9 : decode cX11_undo 9 = .ok (.ireturn, 1) := by decide +kernel
theorem dX11_undo_10 : decode cX11_undo 10 = .ok (.aload_n 0, 1) := by decide +kernel
theorem dX11_undo_11 : decode cX11_undo 11 = .ok (.dup, 1) := by decide +kernel
theorem dX11_undo_12 : decode cX11_undo 12 = .ok (.getfield 105, 3) := by decide +kernel
theorem dX11_undo_15 : decode cX11_undo 15 = .ok (.iconst 1, 1) := by decide +kernel
theorem dX11_undo_16 : decode cX11_undo 16 = .ok (.isub, 1) := by decide +kernel
theorem dX11_undo_17 : decode cX11_undo 17 = .ok (.putfield 105, 3) := by decide +kernel
theorem dX11_undo_20 : decode cX11_undo 20 = .ok (.aload_n 0, 1) := by decide +kernel
theorem dX11_undo_21 : decode cX11_undo 21 = .ok (.getfield 9, 3) := by decide +kernel
theorem dX11_undo_24 : decode cX11_undo 24 = .ok (.aload_n 0, 1) := by decide +kernel
theorem dX11_undo_25 : decode cX11_undo 25 = .ok (.getfield 13, 3) := by decide +kernel
theorem dX11_undo_28 : decode cX11_undo 28 = .ok (.aload_n 0, 1) := by decide +kernel
theorem dX11_undo_29 : decode cX11_undo 29 = .ok (.getfield 105, 3) := by decide +kernel
theorem dX11_undo_32 : decode cX11_undo 32 = .ok (.iaload, 1) := by decide +kernel
theorem dX11_undo_33 : decode cX11_undo 33 = .ok (.aload_n 0, 1) := by decide +kernel
theorem dX11_undo_34 : decode cX11_undo 34 = .ok (.getfield 16, 3) := by decide +kernel
theorem dX11_undo_37 : decode cX11_undo 37 = .ok (.aload_n 0, 1) := by decide +kernel
theorem dX11_undo_38 : decode cX11_undo 38 = .ok (.getfield 105, 3) := by decide +kernel
theorem dX11_undo_41 : decode cX11_undo 41 = .ok (.iaload, 1) := by decide +kernel
theorem dX11_undo_42 : decode cX11_undo 42 = .ok (.iastore, 1) := by decide +kernel
theorem dX11_undo_43 : decode cX11_undo 43 = .ok (.aload_n 0, 1) := by decide +kernel
theorem dX11_undo_44 : decode cX11_undo 44 = .ok (.getfield 105, 3) := by decide +kernel
theorem dX11_undo_47 : decode cX11_undo 47 = .ok (.ireturn, 1) := by decide +kernel
theorem dX11_redo_0 : decode cX11_redo 0 = .ok (.aload_n 0, 1) := by decide +kernel
theorem dX11_redo_1 : decode cX11_redo 1 = .ok (.getfield 105, 3) := by decide +kernel
theorem dX11_redo_4 : decode cX11_redo 4 = .ok (.aload_n 0, 1) := by decide +kernel
theorem dX11_redo_5 : decode cX11_redo 5 = .ok (.getfield 108, 3) := by decide +kernel
theorem dX11_redo_8 : decode cX11_redo 8 = .ok (.if_icmp .ne 6, 3) := by decide +kernel
theorem dX11_redo_11 : decode cX11_redo 11 = .ok (.bipush (-5), 2) := by decide +kernel
theorem dX11_redo_13 : decode cX11_redo 13 = .ok (.ireturn, 1) := by decide +kernel
theorem dX11_redo_14 : decode cX11_redo 14 = .ok (.aload_n 0, 1) := by decide +kernel
theorem dX11_redo_15 : decode cX11_redo 15 = .ok (.getfield 9, 3) := by decide +kernel
theorem dX11_redo_18 : decode cX11_redo 18 = .ok (.aload_n 0, 1) := by decide +kernel
theorem dX11_redo_19 : decode cX11_redo 19 = .ok (.getfield 13, 3) := by decide +kernel
theorem dX11_redo_22 : decode cX11_redo 22 = .ok (.aload_n 0, 1) := by decide +kernel
theorem dX11_redo_23 : decode cX11_redo 23 = .ok (.getfield 105, 3) := by decide +kernel
theorem dX11_redo_26 : decode cX11_redo 26 = .ok (.iaload, 1) := by decide +kernel
theorem dX11_redo_27 : decode cX11_redo 27 = .ok (.aload_n 0, 1) := by decide +kernel
theorem dX11_redo_28 : decode cX11_redo 28 = .ok (.getfield 19, 3) := by decide +kernel
theorem dX11_redo_31 : decode cX11_redo 31 = .ok (.aload_n 0, 1) := by decide +kernel
theorem dX11_redo_32 : decode cX11_redo 32 = .ok (.getfield 105, 3) := by decide +kernel
theorem dX11_redo_35 : decode cX11_redo 35 = .ok (.iaload, 1) := by decide +kernel
theorem dX11_redo_36 : decode cX11_redo 36 = .ok (.iastore, 1) := by decide +kernel
theorem dX11_redo_37 : decode cX11_redo 37 = .ok (.aload_n 0, 1) := by decide +kernel
theorem dX11_redo_38 : decode cX11_redo 38 = .ok (.dup, 1) := by decide +kernel
theorem dX11_redo_39 : decode cX11_redo 39 = .ok (.getfield 105, 3) := by decide +kernel
theorem dX11_redo_42 : decode cX11_redo 42 = .ok (.iconst 1, 1) := by decide +kernel
theorem dX11_redo_43 : decode cX11_redo 43 = .ok (.iadd, 1) := by decide +kernel
theorem dX11_redo_44 : decode cX11_redo 44 = .ok (.putfield 105, 3) := by decide +kernel
theorem dX11_redo_47 : decode cX11_redo 47 = .ok (.aload_n 0, 1) := by decide +kernel
theorem dX11_redo_48 : decode cX11_redo 48 = .ok (.getfield 108, 3) := by decide +kernel
theorem dX11_redo_51 : decode cX11_redo 51 = .ok (.aload_n 0, 1) := by decide +kernel
theorem dX11_redo_52 : decode cX11_redo 52 = .ok (.getfield 105, 3) := by decide +kernel
theorem dX11_redo_55 : decode cX11_redo 55 = .ok (.isub, 1) := by decide +kernel
theorem dX11_redo_56 : decode cX11_redo 56 = .ok (.ireturn, 1) := by decide +kernel
theorem dX11_feed_0 : decode cX11_feed 0 = .ok (.iload_n 1, 1) := by decide +kernel
theorem dX11_feed_1 : decode cX11_feed 1 = .ok (.i2l, 1) := by decide +kernel
theorem dX11_feed_2 : decode cX11_feed 2 = .ok (.lconst 1, 1) := by decide +kernel
theorem dX11_feed_3 : decode cX11_feed 3 = .ok (.ldc2_w 111, 3) := by decide +kernel
theorem dX11_feed_6 : decode cX11_feed 6 = .ok (.invokestatic 113, 3) := by decide +kernel
theorem dX11_feed_9 : decode cX11_feed 9 = .ok (.ifCond .ne 5, 3) := by decide +kernel
theorem dX11_feed_12 : decode cX11_feed 12 = .ok (.iconst (-1), 1) := by decide +kernel
theorem dX11_feed_13 : decode cX11_feed 13 = .ok (.ireturn, 1) := by decide +kernel
theorem dX11_feed_14 : decode cX11_feed 14 = .ok (.aload_n 0, 1) := by decide +kernel
theorem dX11_feed_15 : decode cX11_feed 15 = .ok (.getfield 117, 3) := by decide +kernel
theorem dX11_feed_18 : decode cX11_feed 18 = .ok (.iload_n 1, 1) := by decide +kernel
theorem dX11_feed_19 : decode cX11_feed 19 = .ok (.iadd, 1) := by decide +kernel
theorem dX11_feed_20 : decode cX11_feed 20 = .ok (.bipush 120, 2) := by decide +kernel
theorem dX11_feed_22 : decode cX11_feed 22 = .ok (.if_icmp .le 6, 3) := by decide +kernel
theorem dX11_feed_25 : decode cX11_feed 25 = .ok (.bipush (-3), 2) := by decide +kernel
theorem dX11_feed_27 : decode cX11_feed 27 = .ok (.ireturn, 1) := by decide +kernel
theorem dX11_feed_28 : decode cX11_feed 28 = .ok (.iconst 0, 1) := by decide +kernel
theorem dX11_feed_29 : decode cX11_feed 29 = .ok (.istore_n 3, 1) := by decide +kernel
theorem dX11_feed_30 : decode cX11_feed 30 = .ok (.iload_n 3, 1) := by decide +kernel
theorem dX11_feed_31 : decode cX11_feed 31 = .ok (.iload_n 1, 1) := by decide +kernel
theorem dX11_feed_32 : decode cX11_feed 32 = .ok (.if_icmp .ge 38, 3) := by decide +kernel
theorem dX11_feed_35 : decode cX11_feed 35 = .ok (.aload_n 0, 1) := by decide +kernel
theorem dX11_feed_36 : decode cX11_feed 36 = .ok (.getfield 22, 3) := by decide +kernel
theorem dX11_feed_39 : decode cX11_feed 39 = .ok (.aload_n 0, 1) := by decide +kernel
theorem dX11_feed_40 : decode cX11_feed 40 = .ok (.getfield 117, 3) := by decide +kernel
theorem dX11_feed_43 : decode cX11_feed 43 = .ok (.iload_n 2, 1) := by decide +kernel
theorem dX11_feed_44 : decode cX11_feed 44 = .ok (.bipush 8, 2) := by decide +kernel
theorem dX11_feed_46 : decode cX11_feed 46 = .ok (.iload_n 3, 1) := by decide +kernel
theorem dX11_feed_47 : decode cX11_feed 47 = .ok (.imul, 1) := by decide +kernel
theorem dX11_feed_48 : decode cX11_feed 48 = .ok (.ishr, 1) := by decide +kernel
theorem dX11_feed_49 : decode cX11_feed 49 = .ok (.sipush 255, 3) := by decide +kernel
theorem dX11_feed_52 : decode cX11_feed 52 = .ok (.iand, 1) := by decide +kernel
theorem dX11_feed_53 : decode cX11_feed 53 = .ok (.iastore, 1) := by decide +kernel
theorem dX11_feed_54 : decode cX11_feed 54 = .ok (.aload_n 0, 1) := by decide +kernel
theorem dX11_feed_55 : decode cX11_feed 55 = .ok (.dup, 1) := by decide +kernel
theorem dX11_feed_56 : decode cX11_feed 56 = .ok (.getfield 117, 3) := by decide +kernel
theorem dX11_feed_59 : decode cX11_feed 59 = .ok (.iconst 1, 1) := by decide +kernel
theorem dX11_feed_60 : decode cX11_feed 60 = .ok (.iadd, 1) := by decide +kernel
theorem dX11_feed_61 : decode cX11_feed 61 = .ok (.putfield 117, 3) := by decide +kernel
theorem dX11_feed_64 : decode cX11_feed 64 = .ok (.iinc 3 1, 3) := by decide +kernel
theorem dX11_feed_67 : decode cX11_feed 67 = .ok (.goto (-37), 3) := by decide +kernel
theorem dX11_feed_70 : decode cX11_feed 70 = .ok (.aload_n 0, 1) := by decide +kernel
theorem dX11_feed_71 : decode cX11_feed 71 = .ok (.getfield 117, 3) := by decide +kernel
theorem dX11_feed_74 : decode cX11_feed 74 = .ok (.ireturn, 1) := by decide +kernel
theorem dX11_byteAt_0 : decode cX11_byteAt 0 = .ok (.aload_n 0, 1) := by decide +kernel
theorem dX11_byteAt_1 : decode cX11_byteAt 1 = .ok (.getfield 120, 3) := by decide +kernel
theorem dX11_byteAt_4 : decode cX11_byteAt 4 = .ok (.aload_n 0, 1) := by decide +kernel
theorem dX11_byteAt_5 : decode cX11_byteAt 5 = .ok (.getfield 123, 3) := by decide +kernel
theorem dX11_byteAt_8 : decode cX11_byteAt 8 = .ok (.if_icmp .ge 39, 3) := by decide +kernel
theorem dX11_byteAt_11 : decode cX11_byteAt 11 = .ok (.aload_n 0, 1) := by decide +kernel
theorem dX11_byteAt_12 : decode cX11_byteAt 12 = .ok (.getfield 126, 3) := by decide +kernel
theorem dX11_byteAt_15 : decode cX11_byteAt 15 = .ok (.ifCond .ge 15, 3) := by decide +kernel
theorem dX11_byteAt_18 : decode cX11_byteAt 18 = .ok (.aload_n 0, 1) := by decide +kernel
theorem dX11_byteAt_19 : decode cX11_byteAt 19 = .ok (.getfield 22, 3) := by decide +kernel
theorem dX11_byteAt_22 : decode cX11_byteAt 22 = .ok (.aload_n 0, 1) := by decide +kernel
theorem dX11_byteAt_23 : decode cX11_byteAt 23 = .ok (.getfield 120, 3) := by decide +kernel
theorem dX11_byteAt_26 : decode cX11_byteAt 26 = .ok (.iaload, 1) := by decide +kernel
theorem dX11_byteAt_27 : decode cX11_byteAt 27 = .ok (.goto 21, 3) := by decide +kernel
theorem dX11_byteAt_30 : decode cX11_byteAt 30 = .ok (.aload_n 0, 1) := by decide +kernel
theorem dX11_byteAt_31 : decode cX11_byteAt 31 = .ok (.getfield 25, 3) := by decide +kernel
theorem dX11_byteAt_34 : decode cX11_byteAt 34 = .ok (.aload_n 0, 1) := by decide +kernel
theorem dX11_byteAt_35 : decode cX11_byteAt 35 = .ok (.getfield 126, 3) := by decide +kernel
theorem dX11_byteAt_38 : decode cX11_byteAt 38 = .ok (.aload_n 0, 1) := by decide +kernel
theorem dX11_byteAt_39 : decode cX11_byteAt 39 = .ok (.getfield 120, 3) := by decide +kernel
theorem dX11_byteAt_42 : decode cX11_byteAt 42 = .ok (.iadd, 1) := by decide +kernel
theorem dX11_byteAt_43 : decode cX11_byteAt 43 = .ok (.iaload, 1) := by decide +kernel
theorem dX11_byteAt_44 : decode cX11_byteAt 44 = .ok (.goto 4, 3) := by decide +kernel
theorem dX11_byteAt_47 : decode cX11_byteAt 47 = .ok (.iconst 0, 1) := by decide +kernel
theorem dX11_byteAt_48 : decode cX11_byteAt 48 = .ok (.ireturn, 1) := by decide +kernel
theorem dX11_wrong_0 : decode cX11_wrong 0 = .ok (.aload_n 0, 1) := by decide +kernel
theorem dX11_wrong_1 : decode cX11_wrong 1 = .ok (.aload_n 0, 1) := by decide +kernel
theorem dX11_wrong_2 : decode cX11_wrong 2 = .ok (.getfield 129, 3) := by decide +kernel
theorem dX11_wrong_5 : decode cX11_wrong 5 = .ok (.ifCond .ge 10, 3) := by decide +kernel
theorem dX11_wrong_8 : decode cX11_wrong 8 = .ok (.aload_n 0, 1) := by decide +kernel
theorem dX11_wrong_9 : decode cX11_wrong 9 = .ok (.getfield 120, 3) := by decide +kernel
theorem dX11_wrong_12 : decode cX11_wrong 12 = .ok (.goto 7, 3) := by decide +kernel
theorem dX11_wrong_15 : decode cX11_wrong 15 = .ok (.aload_n 0, 1) := by decide +kernel
theorem dX11_wrong_16 : decode cX11_wrong 16 = .ok (.getfield 129, 3) := by decide +kernel
theorem dX11_wrong_19 : decode cX11_wrong 19 = .ok (.putfield 129, 3) := by decide +kernel
theorem dX11_wrong_22 : decode cX11_wrong 22 = .ok (.iconst 0, 1) := by decide +kernel
theorem dX11_wrong_23 : decode cX11_wrong 23 = .ok (.ireturn, 1) := by decide +kernel
theorem dX11_takes_0 : decode cX11_takes 0 = .ok (.aload_n 0, 1) := by decide +kernel
theorem dX11_takes_1 : decode cX11_takes 1 = .ok (.getfield 129, 3) := by decide +kernel
theorem dX11_takes_4 : decode cX11_takes 4 = .ok (.ifCond .ge 11, 3) := by decide +kernel
theorem dX11_takes_7 : decode cX11_takes 7 = .ok (.aload_n 0, 1) := by decide +kernel
theorem dX11_takes_8 : decode cX11_takes 8 = .ok (.invokevirtual 132, 3) := by decide +kernel
theorem dX11_takes_11 : decode cX11_takes 11 = .ok (.iload_n 1, 1) := by decide +kernel
theorem dX11_takes_12 : decode cX11_takes 12 = .ok (.if_icmp .eq 5, 3) := by decide +kernel
theorem dX11_takes_15 : decode cX11_takes 15 = .ok (.iconst 0, 1) := by decide +kernel
theorem dX11_takes_16 : decode cX11_takes 16 = .ok (.ireturn, 1) := by decide +kernel
theorem dX11_takes_17 : decode cX11_takes 17 = .ok (.aload_n 0, 1) := by decide +kernel
theorem dX11_takes_18 : decode cX11_takes 18 = .ok (.dup, 1) := by decide +kernel
theorem dX11_takes_19 : decode cX11_takes 19 = .ok (.getfield 120, 3) := by decide +kernel
theorem dX11_takes_22 : decode cX11_takes 22 = .ok (.iconst 1, 1) := by decide +kernel
theorem dX11_takes_23 : decode cX11_takes 23 = .ok (.iadd, 1) := by decide +kernel
theorem dX11_takes_24 : decode cX11_takes 24 = .ok (.putfield 120, 3) := by decide +kernel
theorem dX11_takes_27 : decode cX11_takes 27 = .ok (.iconst 1, 1) := by decide +kernel
theorem dX11_takes_28 : decode cX11_takes 28 = .ok (.ireturn, 1) := by decide +kernel
theorem dX11_either_0 : decode cX11_either 0 = .ok (.aload_n 0, 1) := by decide +kernel
theorem dX11_either_1 : decode cX11_either 1 = .ok (.invokevirtual 136, 3) := by decide +kernel
theorem dX11_either_4 : decode cX11_either 4 = .ok (.istore_n 1, 1) := by decide +kernel
theorem dX11_either_5 : decode cX11_either 5 = .ok (.aload_n 0, 1) := by decide +kernel
theorem dX11_either_6 : decode cX11_either 6 = .ok (.bipush 124, 2) := by decide +kernel
theorem dX11_either_8 : decode cX11_either 8 = .ok (.invokevirtual 139, 3) := by decide +kernel
theorem dX11_either_11 : decode cX11_either 11 = .ok (.ifCond .eq 25, 3) := by decide +kernel
theorem dX11_either_14 : decode cX11_either 14 = .ok (.aload_n 0, 1) := by decide +kernel
theorem dX11_either_15 : decode cX11_either 15 = .ok (.invokevirtual 136, 3) := by decide +kernel
theorem dX11_either_18 : decode cX11_either 18 = .ok (.istore_n 2, 1) := by decide +kernel
theorem dX11_either_19 : decode cX11_either 19 = .ok (.iload_n 1, 1) := by decide +kernel
theorem dX11_either_20 : decode cX11_either 20 = .ok (.ifCond .ne 7, 3) := by decide +kernel
theorem dX11_either_23 : decode cX11_either 23 = .ok (.iload_n 2, 1) := by decide +kernel
theorem dX11_either_24 : decode cX11_either 24 = .ok (.ifCond .eq 7, 3) := by decide +kernel
theorem dX11_either_27 : decode cX11_either 27 = .ok (.iconst 1, 1) := by decide +kernel
theorem dX11_either_28 : decode cX11_either 28 = .ok (.goto 4, 3) := by decide +kernel
theorem dX11_either_31 : decode cX11_either 31 = .ok (.iconst 0, 1) := by decide +kernel
theorem dX11_either_32 : decode cX11_either 32 = .ok (.istore_n 1, 1) := by decide +kernel
theorem dX11_either_33 : decode cX11_either 33 = .ok (.goto (-28), 3) := by decide +kernel
theorem dX11_either_36 : decode cX11_either 36 = .ok (.iload_n 1, 1) := by decide +kernel
theorem dX11_either_37 : decode cX11_either 37 = .ok (.ireturn, 1) := by decide +kernel
theorem dX11_both_0 : decode cX11_both 0 = .ok (.aload_n 0, 1) := by decide +kernel
theorem dX11_both_1 : decode cX11_both 1 = .ok (.invokevirtual 143, 3) := by decide +kernel
theorem dX11_both_4 : decode cX11_both 4 = .ok (.istore_n 1, 1) := by decide +kernel
theorem dX11_both_5 : decode cX11_both 5 = .ok (.aload_n 0, 1) := by decide +kernel
theorem dX11_both_6 : decode cX11_both 6 = .ok (.bipush 38, 2) := by decide +kernel
theorem dX11_both_8 : decode cX11_both 8 = .ok (.invokevirtual 139, 3) := by decide +kernel
theorem dX11_both_11 : decode cX11_both 11 = .ok (.ifCond .eq 25, 3) := by decide +kernel
theorem dX11_both_14 : decode cX11_both 14 = .ok (.aload_n 0, 1) := by decide +kernel
theorem dX11_both_15 : decode cX11_both 15 = .ok (.invokevirtual 143, 3) := by decide +kernel
theorem dX11_both_18 : decode cX11_both 18 = .ok (.istore_n 2, 1) := by decide +kernel
theorem dX11_both_19 : decode cX11_both 19 = .ok (.iload_n 1, 1) := by decide +kernel
theorem dX11_both_20 : decode cX11_both 20 = .ok (.ifCond .eq 11, 3) := by decide +kernel
theorem dX11_both_23 : decode cX11_both 23 = .ok (.iload_n 2, 1) := by decide +kernel
theorem dX11_both_24 : decode cX11_both 24 = .ok (.ifCond .eq 7, 3) := by decide +kernel
theorem dX11_both_27 : decode cX11_both 27 = .ok (.iconst 1, 1) := by decide +kernel
theorem dX11_both_28 : decode cX11_both 28 = .ok (.goto 4, 3) := by decide +kernel
theorem dX11_both_31 : decode cX11_both 31 = .ok (.iconst 0, 1) := by decide +kernel
theorem dX11_both_32 : decode cX11_both 32 = .ok (.istore_n 1, 1) := by decide +kernel
theorem dX11_both_33 : decode cX11_both 33 = .ok (.goto (-28), 3) := by decide +kernel
theorem dX11_both_36 : decode cX11_both 36 = .ok (.iload_n 1, 1) := by decide +kernel
theorem dX11_both_37 : decode cX11_both 37 = .ok (.ireturn, 1) := by decide +kernel
theorem dX11_compared_0 : decode cX11_compared 0 = .ok (.aload_n 0, 1) := by decide +kernel
theorem dX11_compared_1 : decode cX11_compared 1 = .ok (.invokevirtual 146, 3) := by decide +kernel
theorem dX11_compared_4 : decode cX11_compared 4 = .ok (.istore_n 1, 1) := by decide +kernel
theorem dX11_compared_5 : decode cX11_compared 5 = .ok (.aload_n 0, 1) := by decide +kernel
theorem dX11_compared_6 : decode cX11_compared 6 = .ok (.invokevirtual 132, 3) := by decide +kernel
theorem dX11_compared_9 : decode cX11_compared 9 = .ok (.istore_n 2, 1) := by decide +kernel
theorem dX11_compared_10 : decode cX11_compared 10 = .ok (.aload_n 0, 1) := by decide +kernel
theorem dX11_compared_11 : decode cX11_compared 11 = .ok (.getfield 129, 3) := by decide +kernel
theorem dX11_compared_14 : decode cX11_compared 14 = .ok (.ifCond .ge 21, 3) := by decide +kernel
theorem dX11_compared_17 : decode cX11_compared 17 = .ok (.iload_n 2, 1) := by decide +kernel
theorem dX11_compared_18 : decode cX11_compared 18 = .ok (.bipush 60, 2) := by decide +kernel
theorem dX11_compared_20 : decode cX11_compared 20 = .ok (.if_icmp .eq 17, 3) := by decide +kernel
theorem dX11_compared_23 : decode cX11_compared 23 = .ok (.iload_n 2, 1) := by decide +kernel
theorem dX11_compared_24 : decode cX11_compared 24 = .ok (.bipush 61, 2) := by decide +kernel
theorem dX11_compared_26 : decode cX11_compared 26 = .ok (.if_icmp .eq 11, 3) := by decide +kernel
theorem dX11_compared_29 : decode cX11_compared 29 = .ok (.iload_n 2, 1) := by decide +kernel
theorem dX11_compared_30 : decode cX11_compared 30 = .ok (.bipush 62, 2) := by decide +kernel
theorem dX11_compared_32 : decode cX11_compared 32 = .ok (.if_icmp .eq 5, 3) := by decide +kernel
theorem dX11_compared_35 : decode cX11_compared 35 = .ok (.iload_n 1, 1) := by decide +kernel
theorem dX11_compared_36 : decode cX11_compared 36 = .ok (.ireturn, 1) := by decide +kernel
theorem dX11_compared_37 : decode cX11_compared 37 = .ok (.aload_n 0, 1) := by decide +kernel
theorem dX11_compared_38 : decode cX11_compared 38 = .ok (.dup, 1) := by decide +kernel
theorem dX11_compared_39 : decode cX11_compared 39 = .ok (.getfield 120, 3) := by decide +kernel
theorem dX11_compared_42 : decode cX11_compared 42 = .ok (.iconst 1, 1) := by decide +kernel
theorem dX11_compared_43 : decode cX11_compared 43 = .ok (.iadd, 1) := by decide +kernel
theorem dX11_compared_44 : decode cX11_compared 44 = .ok (.putfield 120, 3) := by decide +kernel
theorem dX11_compared_47 : decode cX11_compared 47 = .ok (.aload_n 0, 1) := by decide +kernel
theorem dX11_compared_48 : decode cX11_compared 48 = .ok (.invokevirtual 146, 3) := by decide +kernel
theorem dX11_compared_51 : decode cX11_compared 51 = .ok (.istore_n 3, 1) := by decide +kernel
theorem dX11_compared_52 : decode cX11_compared 52 = .ok (.iload_n 2, 1) := by decide +kernel
theorem dX11_compared_53 : decode cX11_compared 53 = .ok (.bipush 60, 2) := by decide +kernel
theorem dX11_compared_55 : decode cX11_compared 55 = .ok (.if_icmp .ne 11, 3) := by decide +kernel
theorem dX11_compared_58 : decode cX11_compared 58 = .ok (.iload_n 1, 1) := by decide +kernel
theorem dX11_compared_59 : decode cX11_compared 59 = .ok (.iload_n 3, 1) := by decide +kernel
theorem dX11_compared_60 : decode cX11_compared 60 = .ok (.if_icmp .ge 29, 3) := by decide +kernel
theorem dX11_compared_63 : decode cX11_compared 63 = .ok (.goto 22, 3) := by decide +kernel
theorem dX11_compared_66 : decode cX11_compared 66 = .ok (.iload_n 2, 1) := by decide +kernel
theorem dX11_compared_67 : decode cX11_compared 67 = .ok (.bipush 61, 2) := by decide +kernel
theorem dX11_compared_69 : decode cX11_compared 69 = .ok (.if_icmp .ne 11, 3) := by decide +kernel
theorem dX11_compared_72 : decode cX11_compared 72 = .ok (.iload_n 1, 1) := by decide +kernel
theorem dX11_compared_73 : decode cX11_compared 73 = .ok (.iload_n 3, 1) := by decide +kernel
theorem dX11_compared_74 : decode cX11_compared 74 = .ok (.if_icmp .ne 15, 3) := by decide +kernel
theorem dX11_compared_77 : decode cX11_compared 77 = .ok (.goto 8, 3) := by decide +kernel
theorem dX11_compared_80 : decode cX11_compared 80 = .ok (.iload_n 1, 1) := by decide +kernel
theorem dX11_compared_81 : decode cX11_compared 81 = .ok (.iload_n 3, 1) := by decide +kernel
theorem dX11_compared_82 : decode cX11_compared 82 = .ok (.if_icmp .le 7, 3) := by decide +kernel
theorem dX11_compared_85 : decode cX11_compared 85 = .ok (.iconst 1, 1) := by decide +kernel
theorem dX11_compared_86 : decode cX11_compared 86 = .ok (.goto 4, 3) := by decide +kernel
theorem dX11_compared_89 : decode cX11_compared 89 = .ok (.iconst 0, 1) := by decide +kernel
theorem dX11_compared_90 : decode cX11_compared 90 = .ok (.ireturn, 1) := by decide +kernel
theorem dX11_sums_0 : decode cX11_sums 0 = .ok (.aload_n 0, 1) := by decide +kernel
theorem dX11_sums_1 : decode cX11_sums 1 = .ok (.invokevirtual 149, 3) := by decide +kernel
theorem dX11_sums_4 : decode cX11_sums 4 = .ok (.istore_n 1, 1) := by decide +kernel
theorem dX11_sums_5 : decode cX11_sums 5 = .ok (.aload_n 0, 1) := by decide +kernel
theorem dX11_sums_6 : decode cX11_sums 6 = .ok (.getfield 129, 3) := by decide +kernel
theorem dX11_sums_9 : decode cX11_sums 9 = .ok (.ifCond .ge 68, 3) := by decide +kernel
theorem dX11_sums_12 : decode cX11_sums 12 = .ok (.aload_n 0, 1) := by decide +kernel
theorem dX11_sums_13 : decode cX11_sums 13 = .ok (.invokevirtual 132, 3) := by decide +kernel
theorem dX11_sums_16 : decode cX11_sums 16 = .ok (.bipush 43, 2) := by decide +kernel
theorem dX11_sums_18 : decode cX11_sums 18 = .ok (.if_icmp .eq 12, 3) := by decide +kernel
theorem dX11_sums_21 : decode cX11_sums 21 = .ok (.aload_n 0, 1) := by decide +kernel
theorem dX11_sums_22 : decode cX11_sums 22 = .ok (.invokevirtual 132, 3) := by decide +kernel
theorem dX11_sums_25 : decode cX11_sums 25 = .ok (.bipush 45, 2) := by decide +kernel
theorem dX11_sums_27 : decode cX11_sums 27 = .ok (.if_icmp .ne 50, 3) := by decide +kernel
theorem dX11_sums_30 : decode cX11_sums 30 = .ok (.aload_n 0, 1) := by decide +kernel
theorem dX11_sums_31 : decode cX11_sums 31 = .ok (.invokevirtual 132, 3) := by decide +kernel
theorem dX11_sums_34 : decode cX11_sums 34 = .ok (.bipush 43, 2) := by decide +kernel
theorem dX11_sums_36 : decode cX11_sums 36 = .ok (.if_icmp .ne 7, 3) := by decide +kernel
theorem dX11_sums_39 : decode cX11_sums 39 = .ok (.iconst 1, 1) := by decide +kernel
theorem dX11_sums_40 : decode cX11_sums 40 = .ok (.goto 4, 3) := by decide +kernel
theorem dX11_sums_43 : decode cX11_sums 43 = .ok (.iconst 0, 1) := by decide +kernel
theorem dX11_sums_44 : decode cX11_sums 44 = .ok (.istore_n 2, 1) := by decide +kernel
theorem dX11_sums_45 : decode cX11_sums 45 = .ok (.aload_n 0, 1) := by decide +kernel
theorem dX11_sums_46 : decode cX11_sums 46 = .ok (.dup, 1) := by decide +kernel
theorem dX11_sums_47 : decode cX11_sums 47 = .ok (.getfield 120, 3) := by decide +kernel
theorem dX11_sums_50 : decode cX11_sums 50 = .ok (.iconst 1, 1) := by decide +kernel
theorem dX11_sums_51 : decode cX11_sums 51 = .ok (.iadd, 1) := by decide +kernel
theorem dX11_sums_52 : decode cX11_sums 52 = .ok (.putfield 120, 3) := by decide +kernel
theorem dX11_sums_55 : decode cX11_sums 55 = .ok (.aload_n 0, 1) := by decide +kernel
theorem dX11_sums_56 : decode cX11_sums 56 = .ok (.invokevirtual 149, 3) := by decide +kernel
theorem dX11_sums_59 : decode cX11_sums 59 = .ok (.istore_n 3, 1) := by decide +kernel
theorem dX11_sums_60 : decode cX11_sums 60 = .ok (.iload_n 2, 1) := by decide +kernel
theorem dX11_sums_61 : decode cX11_sums 61 = .ok (.ifCond .eq 9, 3) := by decide +kernel
theorem dX11_sums_64 : decode cX11_sums 64 = .ok (.iload_n 1, 1) := by decide +kernel
theorem dX11_sums_65 : decode cX11_sums 65 = .ok (.iload_n 3, 1) := by decide +kernel
theorem dX11_sums_66 : decode cX11_sums 66 = .ok (.iadd, 1) := by decide +kernel
theorem dX11_sums_67 : decode cX11_sums 67 = .ok (.goto 6, 3) := by decide +kernel
theorem dX11_sums_70 : decode cX11_sums 70 = .ok (.iload_n 1, 1) := by decide +kernel
theorem dX11_sums_71 : decode cX11_sums 71 = .ok (.iload_n 3, 1) := by decide +kernel
theorem dX11_sums_72 : decode cX11_sums 72 = .ok (.isub, 1) := by decide +kernel
theorem dX11_sums_73 : decode cX11_sums 73 = .ok (.istore_n 1, 1) := by decide +kernel
theorem dX11_sums_74 : decode cX11_sums 74 = .ok (.goto (-69), 3) := by decide +kernel
theorem dX11_sums_77 : decode cX11_sums 77 = .ok (.iload_n 1, 1) := by decide +kernel
theorem dX11_sums_78 : decode cX11_sums 78 = .ok (.ireturn, 1) := by decide +kernel
theorem dX11_product_0 : decode cX11_product 0 = .ok (.aload_n 0, 1) := by decide +kernel
theorem dX11_product_1 : decode cX11_product 1 = .ok (.invokevirtual 152, 3) := by decide +kernel
theorem dX11_product_4 : decode cX11_product 4 = .ok (.istore_n 1, 1) := by decide +kernel
theorem dX11_product_5 : decode cX11_product 5 = .ok (.aload_n 0, 1) := by decide +kernel
theorem dX11_product_6 : decode cX11_product 6 = .ok (.invokevirtual 132, 3) := by decide +kernel
theorem dX11_product_9 : decode cX11_product 9 = .ok (.istore_n 2, 1) := by decide +kernel
theorem dX11_product_10 : decode cX11_product 10 = .ok (.aload_n 0, 1) := by decide +kernel
theorem dX11_product_11 : decode cX11_product 11 = .ok (.getfield 129, 3) := by decide +kernel
theorem dX11_product_14 : decode cX11_product 14 = .ok (.ifCond .ge 80, 3) := by decide +kernel
theorem dX11_product_17 : decode cX11_product 17 = .ok (.iload_n 2, 1) := by decide +kernel
theorem dX11_product_18 : decode cX11_product 18 = .ok (.bipush 42, 2) := by decide +kernel
theorem dX11_product_20 : decode cX11_product 20 = .ok (.if_icmp .eq 15, 3) := by decide +kernel
theorem dX11_product_23 : decode cX11_product 23 = .ok (.iload_n 2, 1) := by decide +kernel
theorem dX11_product_24 : decode cX11_product 24 = .ok (.bipush 47, 2) := by decide +kernel
theorem dX11_product_26 : decode cX11_product 26 = .ok (.if_icmp .eq 9, 3) := by decide +kernel
theorem dX11_product_29 : decode cX11_product 29 = .ok (.iload_n 2, 1) := by decide +kernel
theorem dX11_product_30 : decode cX11_product 30 = .ok (.bipush 37, 2) := by decide +kernel
theorem dX11_product_32 : decode cX11_product 32 = .ok (.if_icmp .ne 62, 3) := by decide +kernel
theorem dX11_product_35 : decode cX11_product 35 = .ok (.aload_n 0, 1) := by decide +kernel
theorem dX11_product_36 : decode cX11_product 36 = .ok (.dup, 1) := by decide +kernel
theorem dX11_product_37 : decode cX11_product 37 = .ok (.getfield 120, 3) := by decide +kernel
theorem dX11_product_40 : decode cX11_product 40 = .ok (.iconst 1, 1) := by decide +kernel
theorem dX11_product_41 : decode cX11_product 41 = .ok (.iadd, 1) := by decide +kernel
theorem dX11_product_42 : decode cX11_product 42 = .ok (.putfield 120, 3) := by decide +kernel
theorem dX11_product_45 : decode cX11_product 45 = .ok (.aload_n 0, 1) := by decide +kernel
theorem dX11_product_46 : decode cX11_product 46 = .ok (.invokevirtual 152, 3) := by decide +kernel
theorem dX11_product_49 : decode cX11_product 49 = .ok (.istore_n 3, 1) := by decide +kernel
theorem dX11_product_50 : decode cX11_product 50 = .ok (.iload_n 2, 1) := by decide +kernel
theorem dX11_product_51 : decode cX11_product 51 = .ok (.bipush 42, 2) := by decide +kernel
theorem dX11_product_53 : decode cX11_product 53 = .ok (.if_icmp .ne 9, 3) := by decide +kernel
theorem dX11_product_56 : decode cX11_product 56 = .ok (.iload_n 1, 1) := by decide +kernel
theorem dX11_product_57 : decode cX11_product 57 = .ok (.iload_n 3, 1) := by decide +kernel
theorem dX11_product_58 : decode cX11_product 58 = .ok (.imul, 1) := by decide +kernel
theorem dX11_product_59 : decode cX11_product 59 = .ok (.goto 26, 3) := by decide +kernel
theorem dX11_product_62 : decode cX11_product 62 = .ok (.iload_n 3, 1) := by decide +kernel
theorem dX11_product_63 : decode cX11_product 63 = .ok (.ifCond .ne 7, 3) := by decide +kernel
theorem dX11_product_66 : decode cX11_product 66 = .ok (.iconst 0, 1) := by decide +kernel
theorem dX11_product_67 : decode cX11_product 67 = .ok (.goto 18, 3) := by decide +kernel
theorem dX11_product_70 : decode cX11_product 70 = .ok (.iload_n 2, 1) := by decide +kernel
theorem dX11_product_71 : decode cX11_product 71 = .ok (.bipush 47, 2) := by decide +kernel
theorem dX11_product_73 : decode cX11_product 73 = .ok (.if_icmp .ne 9, 3) := by decide +kernel
theorem dX11_product_76 : decode cX11_product 76 = .ok (.iload_n 1, 1) := by decide +kernel
theorem dX11_product_77 : decode cX11_product 77 = .ok (.iload_n 3, 1) := by decide +kernel
theorem dX11_product_78 : decode cX11_product 78 = .ok (.idiv, 1) := by decide +kernel
theorem dX11_product_79 : decode cX11_product 79 = .ok (.goto 6, 3) := by decide +kernel
theorem dX11_product_82 : decode cX11_product 82 = .ok (.iload_n 1, 1) := by decide +kernel
theorem dX11_product_83 : decode cX11_product 83 = .ok (.iload_n 3, 1) := by decide +kernel
theorem dX11_product_84 : decode cX11_product 84 = .ok (.irem, 1) := by decide +kernel
theorem dX11_product_85 : decode cX11_product 85 = .ok (.istore_n 1, 1) := by decide +kernel
theorem dX11_product_86 : decode cX11_product 86 = .ok (.aload_n 0, 1) := by decide +kernel
theorem dX11_product_87 : decode cX11_product 87 = .ok (.invokevirtual 132, 3) := by decide +kernel
theorem dX11_product_90 : decode cX11_product 90 = .ok (.istore_n 2, 1) := by decide +kernel
theorem dX11_product_91 : decode cX11_product 91 = .ok (.goto (-81), 3) := by decide +kernel
theorem dX11_product_94 : decode cX11_product 94 = .ok (.iload_n 1, 1) := by decide +kernel
theorem dX11_product_95 : decode cX11_product 95 = .ok (.ireturn, 1) := by decide +kernel
theorem dX11_nameOf_0 : decode cX11_nameOf 0 = .ok (.iload_n 0, 1) := by decide +kernel
theorem dX11_nameOf_1 : decode cX11_nameOf 1 = .ok (.tableswitch 129 99 122 #[126, 119, 129, 129, 129, 129, 129, 129, 129, 129, 111, 113, 129, 129, 129, 129, 129, 123, 129, 129, 129, 115, 117, 121], 111) := by decide +kernel
theorem dX11_nameOf_112 : decode cX11_nameOf 112 = .ok (.iconst 0, 1) := by decide +kernel
theorem dX11_nameOf_113 : decode cX11_nameOf 113 = .ok (.ireturn, 1) := by decide +kernel
theorem dX11_nameOf_114 : decode cX11_nameOf 114 = .ok (.iconst 1, 1) := by decide +kernel
theorem dX11_nameOf_115 : decode cX11_nameOf 115 = .ok (.ireturn, 1) := by decide +kernel
theorem dX11_nameOf_116 : decode cX11_nameOf 116 = .ok (.iconst 2, 1) := by decide +kernel
theorem dX11_nameOf_117 : decode cX11_nameOf 117 = .ok (.ireturn, 1) := by decide +kernel
theorem dX11_nameOf_118 : decode cX11_nameOf 118 = .ok (.iconst 3, 1) := by decide +kernel
theorem dX11_nameOf_119 : decode cX11_nameOf 119 = .ok (.ireturn, 1) := by decide +kernel
theorem dX11_nameOf_120 : decode cX11_nameOf 120 = .ok (.iconst 4, 1) := by decide +kernel
theorem dX11_nameOf_121 : decode cX11_nameOf 121 = .ok (.ireturn, 1) := by decide +kernel
theorem dX11_nameOf_122 : decode cX11_nameOf 122 = .ok (.iconst 5, 1) := by decide +kernel
theorem dX11_nameOf_123 : decode cX11_nameOf 123 = .ok (.ireturn, 1) := by decide +kernel
theorem dX11_nameOf_124 : decode cX11_nameOf 124 = .ok (.bipush 6, 2) := by decide +kernel
theorem dX11_nameOf_126 : decode cX11_nameOf 126 = .ok (.ireturn, 1) := by decide +kernel
theorem dX11_nameOf_127 : decode cX11_nameOf 127 = .ok (.bipush 7, 2) := by decide +kernel
theorem dX11_nameOf_129 : decode cX11_nameOf 129 = .ok (.ireturn, 1) := by decide +kernel
theorem dX11_nameOf_130 : decode cX11_nameOf 130 = .ok (.iconst (-1), 1) := by decide +kernel
theorem dX11_nameOf_131 : decode cX11_nameOf 131 = .ok (.ireturn, 1) := by decide +kernel
theorem dX11_one_0 : decode cX11_one 0 = .ok (.aload_n 0, 1) := by decide +kernel
theorem dX11_one_1 : decode cX11_one 1 = .ok (.getfield 129, 3) := by decide +kernel
theorem dX11_one_4 : decode cX11_one 4 = .ok (.ifCond .lt 5, 3) := by decide +kernel
theorem dX11_one_7 : decode cX11_one 7 = .ok (.iconst 0, 1) := by decide +kernel
theorem dX11_one_8 : decode cX11_one 8 = .ok (.ireturn, 1) := by decide +kernel
theorem dX11_one_9 : decode cX11_one 9 = .ok (.aload_n 0, 1) := by decide +kernel
theorem dX11_one_10 : decode cX11_one 10 = .ok (.invokevirtual 132, 3) := by decide +kernel
theorem dX11_one_13 : decode cX11_one 13 = .ok (.istore_n 1, 1) := by decide +kernel
theorem dX11_one_14 : decode cX11_one 14 = .ok (.iload_n 1, 1) := by decide +kernel
theorem dX11_one_15 : decode cX11_one 15 = .ok (.bipush 33, 2) := by decide +kernel
theorem dX11_one_17 : decode cX11_one 17 = .ok (.if_icmp .eq 15, 3) := by decide +kernel
theorem dX11_one_20 : decode cX11_one 20 = .ok (.iload_n 1, 1) := by decide +kernel
theorem dX11_one_21 : decode cX11_one 21 = .ok (.bipush 45, 2) := by decide +kernel
theorem dX11_one_23 : decode cX11_one 23 = .ok (.if_icmp .eq 9, 3) := by decide +kernel
theorem dX11_one_26 : decode cX11_one 26 = .ok (.iload_n 1, 1) := by decide +kernel
theorem dX11_one_27 : decode cX11_one 27 = .ok (.bipush 40, 2) := by decide +kernel
theorem dX11_one_29 : decode cX11_one 29 = .ok (.if_icmp .ne 116, 3) := by decide +kernel
theorem dX11_one_32 : decode cX11_one 32 = .ok (.aload_n 0, 1) := by decide +kernel
theorem dX11_one_33 : decode cX11_one 33 = .ok (.getfield 155, 3) := by decide +kernel
theorem dX11_one_36 : decode cX11_one 36 = .ok (.bipush 6, 2) := by decide +kernel
theorem dX11_one_38 : decode cX11_one 38 = .ok (.if_icmp .ne 8, 3) := by decide +kernel
theorem dX11_one_41 : decode cX11_one 41 = .ok (.aload_n 0, 1) := by decide +kernel
theorem dX11_one_42 : decode cX11_one 42 = .ok (.invokevirtual 158, 3) := by decide +kernel
theorem dX11_one_45 : decode cX11_one 45 = .ok (.ireturn, 1) := by decide +kernel
theorem dX11_one_46 : decode cX11_one 46 = .ok (.aload_n 0, 1) := by decide +kernel
theorem dX11_one_47 : decode cX11_one 47 = .ok (.dup, 1) := by decide +kernel
theorem dX11_one_48 : decode cX11_one 48 = .ok (.getfield 155, 3) := by decide +kernel
theorem dX11_one_51 : decode cX11_one 51 = .ok (.iconst 1, 1) := by decide +kernel
theorem dX11_one_52 : decode cX11_one 52 = .ok (.iadd, 1) := by decide +kernel
theorem dX11_one_53 : decode cX11_one 53 = .ok (.putfield 155, 3) := by decide +kernel
theorem dX11_one_56 : decode cX11_one 56 = .ok (.aload_n 0, 1) := by decide +kernel
theorem dX11_one_57 : decode cX11_one 57 = .ok (.dup, 1) := by decide +kernel
theorem dX11_one_58 : decode cX11_one 58 = .ok (.getfield 120, 3) := by decide +kernel
theorem dX11_one_61 : decode cX11_one 61 = .ok (.iconst 1, 1) := by decide +kernel
theorem dX11_one_62 : decode cX11_one 62 = .ok (.iadd, 1) := by decide +kernel
theorem dX11_one_63 : decode cX11_one 63 = .ok (.putfield 120, 3) := by decide +kernel
theorem dX11_one_66 : decode cX11_one 66 = .ok (.iload_n 1, 1) := by decide +kernel
theorem dX11_one_67 : decode cX11_one 67 = .ok (.bipush 40, 2) := by decide +kernel
theorem dX11_one_69 : decode cX11_one 69 = .ok (.if_icmp .ne 10, 3) := by decide +kernel
theorem dX11_one_72 : decode cX11_one 72 = .ok (.aload_n 0, 1) := by decide +kernel
theorem dX11_one_73 : decode cX11_one 73 = .ok (.invokevirtual 161, 3) := by decide +kernel
theorem dX11_one_76 : decode cX11_one 76 = .ok (.goto 7, 3) := by decide +kernel
theorem dX11_one_79 : decode cX11_one 79 = .ok (.aload_n 0, 1) := by decide +kernel
theorem dX11_one_80 : decode cX11_one 80 = .ok (.invokevirtual 152, 3) := by decide +kernel
theorem dX11_one_83 : decode cX11_one 83 = .ok (.istore_n 2, 1) := by decide +kernel
theorem dX11_one_84 : decode cX11_one 84 = .ok (.iload_n 1, 1) := by decide +kernel
theorem dX11_one_85 : decode cX11_one 85 = .ok (.bipush 40, 2) := by decide +kernel
theorem dX11_one_87 : decode cX11_one 87 = .ok (.if_icmp .ne 17, 3) := by decide +kernel
theorem dX11_one_90 : decode cX11_one 90 = .ok (.aload_n 0, 1) := by decide +kernel
theorem dX11_one_91 : decode cX11_one 91 = .ok (.bipush 41, 2) := by decide +kernel
theorem dX11_one_93 : decode cX11_one 93 = .ok (.invokevirtual 139, 3) := by decide +kernel
theorem dX11_one_96 : decode cX11_one 96 = .ok (.ifCond .ne 8, 3) := by decide +kernel
theorem dX11_one_99 : decode cX11_one 99 = .ok (.aload_n 0, 1) := by decide +kernel
theorem dX11_one_100 : decode cX11_one 100 = .ok (.invokevirtual 158, 3) := by decide +kernel
theorem dX11_one_103 : decode cX11_one 103 = .ok (.ireturn, 1) := by decide +kernel
theorem dX11_one_104 : decode cX11_one 104 = .ok (.aload_n 0, 1) := by decide +kernel
theorem dX11_one_105 : decode cX11_one 105 = .ok (.dup, 1) := by decide +kernel
theorem dX11_one_106 : decode cX11_one 106 = .ok (.getfield 155, 3) := by decide +kernel
theorem dX11_one_109 : decode cX11_one 109 = .ok (.iconst 1, 1) := by decide +kernel
theorem dX11_one_110 : decode cX11_one 110 = .ok (.isub, 1) := by decide +kernel
theorem dX11_one_111 : decode cX11_one 111 = .ok (.putfield 155, 3) := by decide +kernel
theorem dX11_one_114 : decode cX11_one 114 = .ok (.iload_n 1, 1) := by decide +kernel
theorem dX11_one_115 : decode cX11_one 115 = .ok (.bipush 40, 2) := by decide +kernel
theorem dX11_one_117 : decode cX11_one 117 = .ok (.if_icmp .ne 7, 3) := by decide +kernel
theorem dX11_one_120 : decode cX11_one 120 = .ok (.iload_n 2, 1) := by decide +kernel
theorem dX11_one_121 : decode cX11_one 121 = .ok (.goto 23, 3) := by decide +kernel
theorem dX11_one_124 : decode cX11_one 124 = .ok (.iload_n 1, 1) := by decide +kernel
theorem dX11_one_125 : decode cX11_one 125 = .ok (.bipush 45, 2) := by decide +kernel
theorem dX11_one_127 : decode cX11_one 127 = .ok (.if_icmp .ne 8, 3) := by decide +kernel
theorem dX11_one_130 : decode cX11_one 130 = .ok (.iload_n 2, 1) := by decide +kernel
theorem dX11_one_131 : decode cX11_one 131 = .ok (.ineg, 1) := by decide +kernel
theorem dX11_one_132 : decode cX11_one 132 = .ok (.goto 12, 3) := by decide +kernel
theorem dX11_one_135 : decode cX11_one 135 = .ok (.iload_n 2, 1) := by decide +kernel
theorem dX11_one_136 : decode cX11_one 136 = .ok (.ifCond .ne 7, 3) := by decide +kernel
theorem dX11_one_139 : decode cX11_one 139 = .ok (.iconst 1, 1) := by decide +kernel
theorem dX11_one_140 : decode cX11_one 140 = .ok (.goto 4, 3) := by decide +kernel
theorem dX11_one_143 : decode cX11_one 143 = .ok (.iconst 0, 1) := by decide +kernel
theorem dX11_one_144 : decode cX11_one 144 = .ok (.ireturn, 1) := by decide +kernel
theorem dX11_one_145 : decode cX11_one 145 = .ok (.iload_n 1, 1) := by decide +kernel
theorem dX11_one_146 : decode cX11_one 146 = .ok (.invokestatic 164, 3) := by decide +kernel
theorem dX11_one_149 : decode cX11_one 149 = .ok (.istore_n 2, 1) := by decide +kernel
theorem dX11_one_150 : decode cX11_one 150 = .ok (.iload_n 2, 1) := by decide +kernel
theorem dX11_one_151 : decode cX11_one 151 = .ok (.ifCond .lt 20, 3) := by decide +kernel
theorem dX11_one_154 : decode cX11_one 154 = .ok (.aload_n 0, 1) := by decide +kernel
theorem dX11_one_155 : decode cX11_one 155 = .ok (.dup, 1) := by decide +kernel
theorem dX11_one_156 : decode cX11_one 156 = .ok (.getfield 120, 3) := by decide +kernel
theorem dX11_one_159 : decode cX11_one 159 = .ok (.iconst 1, 1) := by decide +kernel
theorem dX11_one_160 : decode cX11_one 160 = .ok (.iadd, 1) := by decide +kernel
theorem dX11_one_161 : decode cX11_one 161 = .ok (.putfield 120, 3) := by decide +kernel
theorem dX11_one_164 : decode cX11_one 164 = .ok (.aload_n 0, 1) := by decide +kernel
theorem dX11_one_165 : decode cX11_one 165 = .ok (.getfield 28, 3) := by decide +kernel
theorem dX11_one_168 : decode cX11_one 168 = .ok (.iload_n 2, 1) := by decide +kernel
theorem dX11_one_169 : decode cX11_one 169 = .ok (.iaload, 1) := by decide +kernel
theorem dX11_one_170 : decode cX11_one 170 = .ok (.ireturn, 1) := by decide +kernel
theorem dX11_one_171 : decode cX11_one 171 = .ok (.iconst 0, 1) := by decide +kernel
theorem dX11_one_172 : decode cX11_one 172 = .ok (.istore_n 3, 1) := by decide +kernel
theorem dX11_one_173 : decode cX11_one 173 = .ok (.iconst 0, 1) := by decide +kernel
theorem dX11_one_174 : decode cX11_one 174 = .ok (.istore 4, 2) := by decide +kernel
theorem dX11_one_176 : decode cX11_one 176 = .ok (.iload 4, 2) := by decide +kernel
theorem dX11_one_178 : decode cX11_one 178 = .ok (.iconst 4, 1) := by decide +kernel
theorem dX11_one_179 : decode cX11_one 179 = .ok (.if_icmp .ge 50, 3) := by decide +kernel
theorem dX11_one_182 : decode cX11_one 182 = .ok (.aload_n 0, 1) := by decide +kernel
theorem dX11_one_183 : decode cX11_one 183 = .ok (.invokevirtual 132, 3) := by decide +kernel
theorem dX11_one_186 : decode cX11_one 186 = .ok (.bipush 48, 2) := by decide +kernel
theorem dX11_one_188 : decode cX11_one 188 = .ok (.if_icmp .lt 41, 3) := by decide +kernel
theorem dX11_one_191 : decode cX11_one 191 = .ok (.aload_n 0, 1) := by decide +kernel
theorem dX11_one_192 : decode cX11_one 192 = .ok (.invokevirtual 132, 3) := by decide +kernel
theorem dX11_one_195 : decode cX11_one 195 = .ok (.bipush 57, 2) := by decide +kernel
theorem dX11_one_197 : decode cX11_one 197 = .ok (.if_icmp .gt 32, 3) := by decide +kernel
theorem dX11_one_200 : decode cX11_one 200 = .ok (.bipush 10, 2) := by decide +kernel
theorem dX11_one_202 : decode cX11_one 202 = .ok (.iload_n 3, 1) := by decide +kernel
theorem dX11_one_203 : decode cX11_one 203 = .ok (.imul, 1) := by decide +kernel
theorem dX11_one_204 : decode cX11_one 204 = .ok (.aload_n 0, 1) := by decide +kernel
theorem dX11_one_205 : decode cX11_one 205 = .ok (.invokevirtual 132, 3) := by decide +kernel
theorem dX11_one_208 : decode cX11_one 208 = .ok (.iadd, 1) := by decide +kernel
theorem dX11_one_209 : decode cX11_one 209 = .ok (.bipush 48, 2) := by decide +kernel
theorem dX11_one_211 : decode cX11_one 211 = .ok (.isub, 1) := by decide +kernel
theorem dX11_one_212 : decode cX11_one 212 = .ok (.istore_n 3, 1) := by decide +kernel
theorem dX11_one_213 : decode cX11_one 213 = .ok (.iinc 4 1, 3) := by decide +kernel
theorem dX11_one_216 : decode cX11_one 216 = .ok (.aload_n 0, 1) := by decide +kernel
theorem dX11_one_217 : decode cX11_one 217 = .ok (.dup, 1) := by decide +kernel
theorem dX11_one_218 : decode cX11_one 218 = .ok (.getfield 120, 3) := by decide +kernel
theorem dX11_one_221 : decode cX11_one 221 = .ok (.iconst 1, 1) := by decide +kernel
theorem dX11_one_222 : decode cX11_one 222 = .ok (.iadd, 1) := by decide +kernel
theorem dX11_one_223 : decode cX11_one 223 = .ok (.putfield 120, 3) := by decide +kernel
theorem dX11_one_226 : decode cX11_one 226 = .ok (.goto (-50), 3) := by decide +kernel
theorem dX11_one_229 : decode cX11_one 229 = .ok (.iload 4, 2) := by decide +kernel
theorem dX11_one_231 : decode cX11_one 231 = .ok (.ifCond .ne 10, 3) := by decide +kernel
theorem dX11_one_234 : decode cX11_one 234 = .ok (.aload_n 0, 1) := by decide +kernel
theorem dX11_one_235 : decode cX11_one 235 = .ok (.invokevirtual 158, 3) := by decide +kernel
theorem dX11_one_238 : decode cX11_one 238 = .ok (.goto 4, 3) := by decide +kernel
theorem dX11_one_241 : decode cX11_one 241 = .ok (.iload_n 3, 1) := by decide +kernel
theorem dX11_one_242 : decode cX11_one 242 = .ok (.ireturn, 1) := by decide +kernel
theorem dX11_workOut_0 : decode cX11_workOut 0 = .ok (.aload_n 0, 1) := by decide +kernel
theorem dX11_workOut_1 : decode cX11_workOut 1 = .ok (.iload_n 1, 1) := by decide +kernel
theorem dX11_workOut_2 : decode cX11_workOut 2 = .ok (.putfield 126, 3) := by decide +kernel
theorem dX11_workOut_5 : decode cX11_workOut 5 = .ok (.aload_n 0, 1) := by decide +kernel
theorem dX11_workOut_6 : decode cX11_workOut 6 = .ok (.iconst 0, 1) := by decide +kernel
theorem dX11_workOut_7 : decode cX11_workOut 7 = .ok (.putfield 120, 3) := by decide +kernel
theorem dX11_workOut_10 : decode cX11_workOut 10 = .ok (.aload_n 0, 1) := by decide +kernel
theorem dX11_workOut_11 : decode cX11_workOut 11 = .ok (.iload_n 2, 1) := by decide +kernel
theorem dX11_workOut_12 : decode cX11_workOut 12 = .ok (.putfield 123, 3) := by decide +kernel
theorem dX11_workOut_15 : decode cX11_workOut 15 = .ok (.aload_n 0, 1) := by decide +kernel
theorem dX11_workOut_16 : decode cX11_workOut 16 = .ok (.iconst (-1), 1) := by decide +kernel
theorem dX11_workOut_17 : decode cX11_workOut 17 = .ok (.putfield 129, 3) := by decide +kernel
theorem dX11_workOut_20 : decode cX11_workOut 20 = .ok (.aload_n 0, 1) := by decide +kernel
theorem dX11_workOut_21 : decode cX11_workOut 21 = .ok (.iconst 0, 1) := by decide +kernel
theorem dX11_workOut_22 : decode cX11_workOut 22 = .ok (.putfield 155, 3) := by decide +kernel
theorem dX11_workOut_25 : decode cX11_workOut 25 = .ok (.iconst 0, 1) := by decide +kernel
theorem dX11_workOut_26 : decode cX11_workOut 26 = .ok (.istore_n 3, 1) := by decide +kernel
theorem dX11_workOut_27 : decode cX11_workOut 27 = .ok (.iconst 0, 1) := by decide +kernel
theorem dX11_workOut_28 : decode cX11_workOut 28 = .ok (.istore 4, 2) := by decide +kernel
theorem dX11_workOut_30 : decode cX11_workOut 30 = .ok (.iconst 1, 1) := by decide +kernel
theorem dX11_workOut_31 : decode cX11_workOut 31 = .ok (.istore 5, 2) := by decide +kernel
theorem dX11_workOut_33 : decode cX11_workOut 33 = .ok (.iload 5, 2) := by decide +kernel
theorem dX11_workOut_35 : decode cX11_workOut 35 = .ok (.ifCond .eq 72, 3) := by decide +kernel
theorem dX11_workOut_38 : decode cX11_workOut 38 = .ok (.aload_n 0, 1) := by decide +kernel
theorem dX11_workOut_39 : decode cX11_workOut 39 = .ok (.invokevirtual 161, 3) := by decide +kernel
theorem dX11_workOut_42 : decode cX11_workOut 42 = .ok (.istore 6, 2) := by decide +kernel
theorem dX11_workOut_44 : decode cX11_workOut 44 = .ok (.iconst 1, 1) := by decide +kernel
theorem dX11_workOut_45 : decode cX11_workOut 45 = .ok (.istore 7, 2) := by decide +kernel
theorem dX11_workOut_47 : decode cX11_workOut 47 = .ok (.aload_n 0, 1) := by decide +kernel
theorem dX11_workOut_48 : decode cX11_workOut 48 = .ok (.bipush 63, 2) := by decide +kernel
theorem dX11_workOut_50 : decode cX11_workOut 50 = .ok (.invokevirtual 139, 3) := by decide +kernel
theorem dX11_workOut_53 : decode cX11_workOut 53 = .ok (.ifCond .eq 21, 3) := by decide +kernel
theorem dX11_workOut_56 : decode cX11_workOut 56 = .ok (.iload 6, 2) := by decide +kernel
theorem dX11_workOut_58 : decode cX11_workOut 58 = .ok (.ifCond .eq 7, 3) := by decide +kernel
theorem dX11_workOut_61 : decode cX11_workOut 61 = .ok (.iconst 1, 1) := by decide +kernel
theorem dX11_workOut_62 : decode cX11_workOut 62 = .ok (.goto 4, 3) := by decide +kernel
theorem dX11_workOut_65 : decode cX11_workOut 65 = .ok (.iconst 0, 1) := by decide +kernel
theorem dX11_workOut_66 : decode cX11_workOut 66 = .ok (.istore 7, 2) := by decide +kernel
theorem dX11_workOut_68 : decode cX11_workOut 68 = .ok (.aload_n 0, 1) := by decide +kernel
theorem dX11_workOut_69 : decode cX11_workOut 69 = .ok (.invokevirtual 161, 3) := by decide +kernel
theorem dX11_workOut_72 : decode cX11_workOut 72 = .ok (.istore 6, 2) := by decide +kernel
theorem dX11_workOut_74 : decode cX11_workOut 74 = .ok (.aload_n 0, 1) := by decide +kernel
theorem dX11_workOut_75 : decode cX11_workOut 75 = .ok (.getfield 129, 3) := by decide +kernel
theorem dX11_workOut_78 : decode cX11_workOut 78 = .ok (.ifCond .ge 18, 3) := by decide +kernel
theorem dX11_workOut_81 : decode cX11_workOut 81 = .ok (.iload 7, 2) := by decide +kernel
theorem dX11_workOut_83 : decode cX11_workOut 83 = .ok (.ifCond .eq 13, 3) := by decide +kernel
theorem dX11_workOut_86 : decode cX11_workOut 86 = .ok (.iload_n 3, 1) := by decide +kernel
theorem dX11_workOut_87 : decode cX11_workOut 87 = .ok (.ifCond .ne 9, 3) := by decide +kernel
theorem dX11_workOut_90 : decode cX11_workOut 90 = .ok (.iconst 1, 1) := by decide +kernel
theorem dX11_workOut_91 : decode cX11_workOut 91 = .ok (.istore_n 3, 1) := by decide +kernel
theorem dX11_workOut_92 : decode cX11_workOut 92 = .ok (.iload 6, 2) := by decide +kernel
theorem dX11_workOut_94 : decode cX11_workOut 94 = .ok (.istore 4, 2) := by decide +kernel
theorem dX11_workOut_96 : decode cX11_workOut 96 = .ok (.aload_n 0, 1) := by decide +kernel
theorem dX11_workOut_97 : decode cX11_workOut 97 = .ok (.bipush 59, 2) := by decide +kernel
theorem dX11_workOut_99 : decode cX11_workOut 99 = .ok (.invokevirtual 139, 3) := by decide +kernel
theorem dX11_workOut_102 : decode cX11_workOut 102 = .ok (.istore 5, 2) := by decide +kernel
theorem dX11_workOut_104 : decode cX11_workOut 104 = .ok (.goto (-71), 3) := by decide +kernel
theorem dX11_workOut_107 : decode cX11_workOut 107 = .ok (.aload_n 0, 1) := by decide +kernel
theorem dX11_workOut_108 : decode cX11_workOut 108 = .ok (.getfield 129, 3) := by decide +kernel
theorem dX11_workOut_111 : decode cX11_workOut 111 = .ok (.ifCond .ge 19, 3) := by decide +kernel
theorem dX11_workOut_114 : decode cX11_workOut 114 = .ok (.aload_n 0, 1) := by decide +kernel
theorem dX11_workOut_115 : decode cX11_workOut 115 = .ok (.getfield 120, 3) := by decide +kernel
theorem dX11_workOut_118 : decode cX11_workOut 118 = .ok (.aload_n 0, 1) := by decide +kernel
theorem dX11_workOut_119 : decode cX11_workOut 119 = .ok (.getfield 123, 3) := by decide +kernel
theorem dX11_workOut_122 : decode cX11_workOut 122 = .ok (.if_icmp .ge 8, 3) := by decide +kernel
theorem dX11_workOut_125 : decode cX11_workOut 125 = .ok (.aload_n 0, 1) := by decide +kernel
theorem dX11_workOut_126 : decode cX11_workOut 126 = .ok (.invokevirtual 158, 3) := by decide +kernel
theorem dX11_workOut_129 : decode cX11_workOut 129 = .ok (.ireturn, 1) := by decide +kernel
theorem dX11_workOut_130 : decode cX11_workOut 130 = .ok (.iload 4, 2) := by decide +kernel
theorem dX11_workOut_132 : decode cX11_workOut 132 = .ok (.ireturn, 1) := by decide +kernel
theorem dX11_choice_0 : decode cX11_choice 0 = .ok (.aload_n 0, 1) := by decide +kernel
theorem dX11_choice_1 : decode cX11_choice 1 = .ok (.iconst (-1), 1) := by decide +kernel
theorem dX11_choice_2 : decode cX11_choice 2 = .ok (.aload_n 0, 1) := by decide +kernel
theorem dX11_choice_3 : decode cX11_choice 3 = .ok (.getfield 117, 3) := by decide +kernel
theorem dX11_choice_6 : decode cX11_choice 6 = .ok (.invokevirtual 168, 3) := by decide +kernel
theorem dX11_choice_9 : decode cX11_choice 9 = .ok (.istore_n 1, 1) := by decide +kernel
theorem dX11_choice_10 : decode cX11_choice 10 = .ok (.aload_n 0, 1) := by decide +kernel
theorem dX11_choice_11 : decode cX11_choice 11 = .ok (.getfield 117, 3) := by decide +kernel
theorem dX11_choice_14 : decode cX11_choice 14 = .ok (.istore_n 2, 1) := by decide +kernel
theorem dX11_choice_15 : decode cX11_choice 15 = .ok (.aload_n 0, 1) := by decide +kernel
theorem dX11_choice_16 : decode cX11_choice 16 = .ok (.iconst 0, 1) := by decide +kernel
theorem dX11_choice_17 : decode cX11_choice 17 = .ok (.putfield 117, 3) := by decide +kernel
theorem dX11_choice_20 : decode cX11_choice 20 = .ok (.aload_n 0, 1) := by decide +kernel
theorem dX11_choice_21 : decode cX11_choice 21 = .ok (.getfield 129, 3) := by decide +kernel
theorem dX11_choice_24 : decode cX11_choice 24 = .ok (.ifCond .lt 11, 3) := by decide +kernel
theorem dX11_choice_27 : decode cX11_choice 27 = .ok (.bipush (-100), 2) := by decide +kernel
theorem dX11_choice_29 : decode cX11_choice 29 = .ok (.aload_n 0, 1) := by decide +kernel
theorem dX11_choice_30 : decode cX11_choice 30 = .ok (.getfield 129, 3) := by decide +kernel
theorem dX11_choice_33 : decode cX11_choice 33 = .ok (.isub, 1) := by decide +kernel
theorem dX11_choice_34 : decode cX11_choice 34 = .ok (.ireturn, 1) := by decide +kernel
theorem dX11_choice_35 : decode cX11_choice 35 = .ok (.iconst 0, 1) := by decide +kernel
theorem dX11_choice_36 : decode cX11_choice 36 = .ok (.istore_n 3, 1) := by decide +kernel
theorem dX11_choice_37 : decode cX11_choice 37 = .ok (.iload_n 3, 1) := by decide +kernel
theorem dX11_choice_38 : decode cX11_choice 38 = .ok (.iload_n 2, 1) := by decide +kernel
theorem dX11_choice_39 : decode cX11_choice 39 = .ok (.if_icmp .ge 21, 3) := by decide +kernel
theorem dX11_choice_42 : decode cX11_choice 42 = .ok (.aload_n 0, 1) := by decide +kernel
theorem dX11_choice_43 : decode cX11_choice 43 = .ok (.getfield 25, 3) := by decide +kernel
theorem dX11_choice_46 : decode cX11_choice 46 = .ok (.iload_n 3, 1) := by decide +kernel
theorem dX11_choice_47 : decode cX11_choice 47 = .ok (.aload_n 0, 1) := by decide +kernel
theorem dX11_choice_48 : decode cX11_choice 48 = .ok (.getfield 22, 3) := by decide +kernel
theorem dX11_choice_51 : decode cX11_choice 51 = .ok (.iload_n 3, 1) := by decide +kernel
theorem dX11_choice_52 : decode cX11_choice 52 = .ok (.iaload, 1) := by decide +kernel
theorem dX11_choice_53 : decode cX11_choice 53 = .ok (.iastore, 1) := by decide +kernel
theorem dX11_choice_54 : decode cX11_choice 54 = .ok (.iinc 3 1, 3) := by decide +kernel
theorem dX11_choice_57 : decode cX11_choice 57 = .ok (.goto (-20), 3) := by decide +kernel
theorem dX11_choice_60 : decode cX11_choice 60 = .ok (.aload_n 0, 1) := by decide +kernel
theorem dX11_choice_61 : decode cX11_choice 61 = .ok (.iload_n 2, 1) := by decide +kernel
theorem dX11_choice_62 : decode cX11_choice 62 = .ok (.putfield 101, 3) := by decide +kernel
theorem dX11_choice_65 : decode cX11_choice 65 = .ok (.iconst 1, 1) := by decide +kernel
theorem dX11_choice_66 : decode cX11_choice 66 = .ok (.ireturn, 1) := by decide +kernel
theorem dX11_isHead_0 : decode cX11_isHead 0 = .ok (.iload_n 1, 1) := by decide +kernel
theorem dX11_isHead_1 : decode cX11_isHead 1 = .ok (.i2l, 1) := by decide +kernel
theorem dX11_isHead_2 : decode cX11_isHead 2 = .ok (.lconst 0, 1) := by decide +kernel
theorem dX11_isHead_3 : decode cX11_isHead 3 = .ok (.aload_n 0, 1) := by decide +kernel
theorem dX11_isHead_4 : decode cX11_isHead 4 = .ok (.getfield 172, 3) := by decide +kernel
theorem dX11_isHead_7 : decode cX11_isHead 7 = .ok (.iconst 1, 1) := by decide +kernel
theorem dX11_isHead_8 : decode cX11_isHead 8 = .ok (.isub, 1) := by decide +kernel
theorem dX11_isHead_9 : decode cX11_isHead 9 = .ok (.i2l, 1) := by decide +kernel
theorem dX11_isHead_10 : decode cX11_isHead 10 = .ok (.invokestatic 113, 3) := by decide +kernel
theorem dX11_isHead_13 : decode cX11_isHead 13 = .ok (.ireturn, 1) := by decide +kernel
theorem dX11_isOf_0 : decode cX11_isOf 0 = .ok (.iload_n 0, 1) := by decide +kernel
theorem dX11_isOf_1 : decode cX11_isOf 1 = .ok (.iconst 3, 1) := by decide +kernel
theorem dX11_isOf_2 : decode cX11_isOf 2 = .ok (.if_icmp .ge 15, 3) := by decide +kernel
theorem dX11_isOf_5 : decode cX11_isOf 5 = .ok (.iload_n 1, 1) := by decide +kernel
theorem dX11_isOf_6 : decode cX11_isOf 6 = .ok (.i2l, 1) := by decide +kernel
theorem dX11_isOf_7 : decode cX11_isOf 7 = .ok (.lconst 0, 1) := by decide +kernel
theorem dX11_isOf_8 : decode cX11_isOf 8 = .ok (.ldc2_w 175, 3) := by decide +kernel
theorem dX11_isOf_11 : decode cX11_isOf 11 = .ok (.invokestatic 113, 3) := by decide +kernel
theorem dX11_isOf_14 : decode cX11_isOf 14 = .ok (.goto 31, 3) := by decide +kernel
theorem dX11_isOf_17 : decode cX11_isOf 17 = .ok (.iload_n 0, 1) := by decide +kernel
theorem dX11_isOf_18 : decode cX11_isOf 18 = .ok (.iconst 3, 1) := by decide +kernel
theorem dX11_isOf_19 : decode cX11_isOf 19 = .ok (.if_icmp .ne 17, 3) := by decide +kernel
theorem dX11_isOf_22 : decode cX11_isOf 22 = .ok (.iload_n 1, 1) := by decide +kernel
theorem dX11_isOf_23 : decode cX11_isOf 23 = .ok (.i2l, 1) := by decide +kernel
theorem dX11_isOf_24 : decode cX11_isOf 24 = .ok (.ldc2_w 177, 3) := by decide +kernel
theorem dX11_isOf_27 : decode cX11_isOf 27 = .ok (.ldc2_w 175, 3) := by decide +kernel
theorem dX11_isOf_30 : decode cX11_isOf 30 = .ok (.invokestatic 113, 3) := by decide +kernel
theorem dX11_isOf_33 : decode cX11_isOf 33 = .ok (.goto 12, 3) := by decide +kernel
theorem dX11_isOf_36 : decode cX11_isOf 36 = .ok (.iload_n 1, 1) := by decide +kernel
theorem dX11_isOf_37 : decode cX11_isOf 37 = .ok (.i2l, 1) := by decide +kernel
theorem dX11_isOf_38 : decode cX11_isOf 38 = .ok (.lconst 1, 1) := by decide +kernel
theorem dX11_isOf_39 : decode cX11_isOf 39 = .ok (.ldc2_w 179, 3) := by decide +kernel
theorem dX11_isOf_42 : decode cX11_isOf 42 = .ok (.invokestatic 113, 3) := by decide +kernel
theorem dX11_isOf_45 : decode cX11_isOf 45 = .ok (.ireturn, 1) := by decide +kernel
theorem dX11_readOne_0 : decode cX11_readOne 0 = .ok (.aload_n 0, 1) := by decide +kernel
theorem dX11_readOne_1 : decode cX11_readOne 1 = .ok (.getfield 129, 3) := by decide +kernel
theorem dX11_readOne_4 : decode cX11_readOne 4 = .ok (.ifCond .ge 11, 3) := by decide +kernel
theorem dX11_readOne_7 : decode cX11_readOne 7 = .ok (.aload_n 0, 1) := by decide +kernel
theorem dX11_readOne_8 : decode cX11_readOne 8 = .ok (.iload_n 1, 1) := by decide +kernel
theorem dX11_readOne_9 : decode cX11_readOne 9 = .ok (.invokevirtual 139, 3) := by decide +kernel
theorem dX11_readOne_12 : decode cX11_readOne 12 = .ok (.ifCond .ne 8, 3) := by decide +kernel
theorem dX11_readOne_15 : decode cX11_readOne 15 = .ok (.aload_n 0, 1) := by decide +kernel
theorem dX11_readOne_16 : decode cX11_readOne 16 = .ok (.invokevirtual 158, 3) := by decide +kernel
theorem dX11_readOne_19 : decode cX11_readOne 19 = .ok (.ireturn, 1) := by decide +kernel
theorem dX11_readOne_20 : decode cX11_readOne 20 = .ok (.aload_n 0, 1) := by decide +kernel
theorem dX11_readOne_21 : decode cX11_readOne 21 = .ok (.getfield 120, 3) := by decide +kernel
theorem dX11_readOne_24 : decode cX11_readOne 24 = .ok (.istore_n 3, 1) := by decide +kernel
theorem dX11_readOne_25 : decode cX11_readOne 25 = .ok (.iconst 0, 1) := by decide +kernel
theorem dX11_readOne_26 : decode cX11_readOne 26 = .ok (.istore 4, 2) := by decide +kernel
theorem dX11_readOne_28 : decode cX11_readOne 28 = .ok (.aload_n 0, 1) := by decide +kernel
theorem dX11_readOne_29 : decode cX11_readOne 29 = .ok (.getfield 120, 3) := by decide +kernel
theorem dX11_readOne_32 : decode cX11_readOne 32 = .ok (.iload_n 3, 1) := by decide +kernel
theorem dX11_readOne_33 : decode cX11_readOne 33 = .ok (.iconst 2, 1) := by decide +kernel
theorem dX11_readOne_34 : decode cX11_readOne 34 = .ok (.iadd, 1) := by decide +kernel
theorem dX11_readOne_35 : decode cX11_readOne 35 = .ok (.if_icmp .ge 49, 3) := by decide +kernel
theorem dX11_readOne_38 : decode cX11_readOne 38 = .ok (.aload_n 0, 1) := by decide +kernel
theorem dX11_readOne_39 : decode cX11_readOne 39 = .ok (.invokevirtual 132, 3) := by decide +kernel
theorem dX11_readOne_42 : decode cX11_readOne 42 = .ok (.bipush 48, 2) := by decide +kernel
theorem dX11_readOne_44 : decode cX11_readOne 44 = .ok (.if_icmp .lt 40, 3) := by decide +kernel
theorem dX11_readOne_47 : decode cX11_readOne 47 = .ok (.aload_n 0, 1) := by decide +kernel
theorem dX11_readOne_48 : decode cX11_readOne 48 = .ok (.invokevirtual 132, 3) := by decide +kernel
theorem dX11_readOne_51 : decode cX11_readOne 51 = .ok (.bipush 57, 2) := by decide +kernel
theorem dX11_readOne_53 : decode cX11_readOne 53 = .ok (.if_icmp .gt 31, 3) := by decide +kernel
theorem dX11_readOne_56 : decode cX11_readOne 56 = .ok (.bipush 10, 2) := by decide +kernel
theorem dX11_readOne_58 : decode cX11_readOne 58 = .ok (.iload 4, 2) := by decide +kernel
theorem dX11_readOne_60 : decode cX11_readOne 60 = .ok (.imul, 1) := by decide +kernel
theorem dX11_readOne_61 : decode cX11_readOne 61 = .ok (.aload_n 0, 1) := by decide +kernel
theorem dX11_readOne_62 : decode cX11_readOne 62 = .ok (.invokevirtual 132, 3) := by decide +kernel
theorem dX11_readOne_65 : decode cX11_readOne 65 = .ok (.iadd, 1) := by decide +kernel
theorem dX11_readOne_66 : decode cX11_readOne 66 = .ok (.bipush 48, 2) := by decide +kernel
theorem dX11_readOne_68 : decode cX11_readOne 68 = .ok (.isub, 1) := by decide +kernel
theorem dX11_readOne_69 : decode cX11_readOne 69 = .ok (.istore 4, 2) := by decide +kernel
theorem dX11_readOne_71 : decode cX11_readOne 71 = .ok (.aload_n 0, 1) := by decide +kernel
theorem dX11_readOne_72 : decode cX11_readOne 72 = .ok (.dup, 1) := by decide +kernel
theorem dX11_readOne_73 : decode cX11_readOne 73 = .ok (.getfield 120, 3) := by decide +kernel
theorem dX11_readOne_76 : decode cX11_readOne 76 = .ok (.iconst 1, 1) := by decide +kernel
theorem dX11_readOne_77 : decode cX11_readOne 77 = .ok (.iadd, 1) := by decide +kernel
theorem dX11_readOne_78 : decode cX11_readOne 78 = .ok (.putfield 120, 3) := by decide +kernel
theorem dX11_readOne_81 : decode cX11_readOne 81 = .ok (.goto (-53), 3) := by decide +kernel
theorem dX11_readOne_84 : decode cX11_readOne 84 = .ok (.aload_n 0, 1) := by decide +kernel
theorem dX11_readOne_85 : decode cX11_readOne 85 = .ok (.getfield 120, 3) := by decide +kernel
theorem dX11_readOne_88 : decode cX11_readOne 88 = .ok (.iload_n 3, 1) := by decide +kernel
theorem dX11_readOne_89 : decode cX11_readOne 89 = .ok (.if_icmp .ne 8, 3) := by decide +kernel
theorem dX11_readOne_92 : decode cX11_readOne 92 = .ok (.aload_n 0, 1) := by decide +kernel
theorem dX11_readOne_93 : decode cX11_readOne 93 = .ok (.invokevirtual 158, 3) := by decide +kernel
theorem dX11_readOne_96 : decode cX11_readOne 96 = .ok (.ireturn, 1) := by decide +kernel
theorem dX11_readOne_97 : decode cX11_readOne 97 = .ok (.iload_n 2, 1) := by decide +kernel
theorem dX11_readOne_98 : decode cX11_readOne 98 = .ok (.iload 4, 2) := by decide +kernel
theorem dX11_readOne_100 : decode cX11_readOne 100 = .ok (.invokestatic 181, 3) := by decide +kernel
theorem dX11_readOne_103 : decode cX11_readOne 103 = .ok (.ifCond .ne 13, 3) := by decide +kernel
theorem dX11_readOne_106 : decode cX11_readOne 106 = .ok (.aload_n 0, 1) := by decide +kernel
theorem dX11_readOne_107 : decode cX11_readOne 107 = .ok (.iload_n 3, 1) := by decide +kernel
theorem dX11_readOne_108 : decode cX11_readOne 108 = .ok (.putfield 120, 3) := by decide +kernel
theorem dX11_readOne_111 : decode cX11_readOne 111 = .ok (.aload_n 0, 1) := by decide +kernel
theorem dX11_readOne_112 : decode cX11_readOne 112 = .ok (.invokevirtual 158, 3) := by decide +kernel
theorem dX11_readOne_115 : decode cX11_readOne 115 = .ok (.ireturn, 1) := by decide +kernel
theorem dX11_readOne_116 : decode cX11_readOne 116 = .ok (.iload 4, 2) := by decide +kernel
theorem dX11_readOne_118 : decode cX11_readOne 118 = .ok (.ireturn, 1) := by decide +kernel
theorem dX11_head_0 : decode cX11_head 0 = .ok (.aload_n 0, 1) := by decide +kernel
theorem dX11_head_1 : decode cX11_head 1 = .ok (.getfield 172, 3) := by decide +kernel
theorem dX11_head_4 : decode cX11_head 4 = .ok (.bipush 6, 2) := by decide +kernel
theorem dX11_head_6 : decode cX11_head 6 = .ok (.if_icmp .ne 6, 3) := by decide +kernel
theorem dX11_head_9 : decode cX11_head 9 = .ok (.bipush (-3), 2) := by decide +kernel
theorem dX11_head_11 : decode cX11_head 11 = .ok (.ireturn, 1) := by decide +kernel
theorem dX11_head_12 : decode cX11_head 12 = .ok (.aload_n 0, 1) := by decide +kernel
theorem dX11_head_13 : decode cX11_head 13 = .ok (.iconst (-1), 1) := by decide +kernel
theorem dX11_head_14 : decode cX11_head 14 = .ok (.putfield 126, 3) := by decide +kernel
theorem dX11_head_17 : decode cX11_head 17 = .ok (.aload_n 0, 1) := by decide +kernel
theorem dX11_head_18 : decode cX11_head 18 = .ok (.iconst 0, 1) := by decide +kernel
theorem dX11_head_19 : decode cX11_head 19 = .ok (.putfield 120, 3) := by decide +kernel
theorem dX11_head_22 : decode cX11_head 22 = .ok (.aload_n 0, 1) := by decide +kernel
theorem dX11_head_23 : decode cX11_head 23 = .ok (.aload_n 0, 1) := by decide +kernel
theorem dX11_head_24 : decode cX11_head 24 = .ok (.getfield 117, 3) := by decide +kernel
theorem dX11_head_27 : decode cX11_head 27 = .ok (.putfield 123, 3) := by decide +kernel
theorem dX11_head_30 : decode cX11_head 30 = .ok (.aload_n 0, 1) := by decide +kernel
theorem dX11_head_31 : decode cX11_head 31 = .ok (.iconst (-1), 1) := by decide +kernel
theorem dX11_head_32 : decode cX11_head 32 = .ok (.putfield 129, 3) := by decide +kernel
theorem dX11_head_35 : decode cX11_head 35 = .ok (.aload_n 0, 1) := by decide +kernel
theorem dX11_head_36 : decode cX11_head 36 = .ok (.getfield 31, 3) := by decide +kernel
theorem dX11_head_39 : decode cX11_head 39 = .ok (.iconst 0, 1) := by decide +kernel
theorem dX11_head_40 : decode cX11_head 40 = .ok (.aload_n 0, 1) := by decide +kernel
theorem dX11_head_41 : decode cX11_head 41 = .ok (.bipush 108, 2) := by decide +kernel
theorem dX11_head_43 : decode cX11_head 43 = .ok (.iconst 0, 1) := by decide +kernel
theorem dX11_head_44 : decode cX11_head 44 = .ok (.invokevirtual 185, 3) := by decide +kernel
theorem dX11_head_47 : decode cX11_head 47 = .ok (.iastore, 1) := by decide +kernel
theorem dX11_head_48 : decode cX11_head 48 = .ok (.aload_n 0, 1) := by decide +kernel
theorem dX11_head_49 : decode cX11_head 49 = .ok (.getfield 31, 3) := by decide +kernel
theorem dX11_head_52 : decode cX11_head 52 = .ok (.iconst 1, 1) := by decide +kernel
theorem dX11_head_53 : decode cX11_head 53 = .ok (.aload_n 0, 1) := by decide +kernel
theorem dX11_head_54 : decode cX11_head 54 = .ok (.bipush 97, 2) := by decide +kernel
theorem dX11_head_56 : decode cX11_head 56 = .ok (.iconst 1, 1) := by decide +kernel
theorem dX11_head_57 : decode cX11_head 57 = .ok (.invokevirtual 185, 3) := by decide +kernel
theorem dX11_head_60 : decode cX11_head 60 = .ok (.iastore, 1) := by decide +kernel
theorem dX11_head_61 : decode cX11_head 61 = .ok (.aload_n 0, 1) := by decide +kernel
theorem dX11_head_62 : decode cX11_head 62 = .ok (.getfield 31, 3) := by decide +kernel
theorem dX11_head_65 : decode cX11_head 65 = .ok (.iconst 2, 1) := by decide +kernel
theorem dX11_head_66 : decode cX11_head 66 = .ok (.aload_n 0, 1) := by decide +kernel
theorem dX11_head_67 : decode cX11_head 67 = .ok (.bipush 104, 2) := by decide +kernel
theorem dX11_head_69 : decode cX11_head 69 = .ok (.iconst 2, 1) := by decide +kernel
theorem dX11_head_70 : decode cX11_head 70 = .ok (.invokevirtual 185, 3) := by decide +kernel
theorem dX11_head_73 : decode cX11_head 73 = .ok (.iastore, 1) := by decide +kernel
theorem dX11_head_74 : decode cX11_head 74 = .ok (.aload_n 0, 1) := by decide +kernel
theorem dX11_head_75 : decode cX11_head 75 = .ok (.getfield 31, 3) := by decide +kernel
theorem dX11_head_78 : decode cX11_head 78 = .ok (.iconst 3, 1) := by decide +kernel
theorem dX11_head_79 : decode cX11_head 79 = .ok (.aload_n 0, 1) := by decide +kernel
theorem dX11_head_80 : decode cX11_head 80 = .ok (.bipush 116, 2) := by decide +kernel
theorem dX11_head_82 : decode cX11_head 82 = .ok (.iconst 3, 1) := by decide +kernel
theorem dX11_head_83 : decode cX11_head 83 = .ok (.invokevirtual 185, 3) := by decide +kernel
theorem dX11_head_86 : decode cX11_head 86 = .ok (.iastore, 1) := by decide +kernel
theorem dX11_head_87 : decode cX11_head 87 = .ok (.aload_n 0, 1) := by decide +kernel
theorem dX11_head_88 : decode cX11_head 88 = .ok (.getfield 31, 3) := by decide +kernel
theorem dX11_head_91 : decode cX11_head 91 = .ok (.iconst 4, 1) := by decide +kernel
theorem dX11_head_92 : decode cX11_head 92 = .ok (.aload_n 0, 1) := by decide +kernel
theorem dX11_head_93 : decode cX11_head 93 = .ok (.bipush 99, 2) := by decide +kernel
theorem dX11_head_95 : decode cX11_head 95 = .ok (.iconst 4, 1) := by decide +kernel
theorem dX11_head_96 : decode cX11_head 96 = .ok (.invokevirtual 185, 3) := by decide +kernel
theorem dX11_head_99 : decode cX11_head 99 = .ok (.iastore, 1) := by decide +kernel
theorem dX11_head_100 : decode cX11_head 100 = .ok (.aload_n 0, 1) := by decide +kernel
theorem dX11_head_101 : decode cX11_head 101 = .ok (.getfield 129, 3) := by decide +kernel
theorem dX11_head_104 : decode cX11_head 104 = .ok (.ifCond .ge 19, 3) := by decide +kernel
theorem dX11_head_107 : decode cX11_head 107 = .ok (.aload_n 0, 1) := by decide +kernel
theorem dX11_head_108 : decode cX11_head 108 = .ok (.getfield 120, 3) := by decide +kernel
theorem dX11_head_111 : decode cX11_head 111 = .ok (.aload_n 0, 1) := by decide +kernel
theorem dX11_head_112 : decode cX11_head 112 = .ok (.getfield 123, 3) := by decide +kernel
theorem dX11_head_115 : decode cX11_head 115 = .ok (.if_icmp .ge 8, 3) := by decide +kernel
theorem dX11_head_118 : decode cX11_head 118 = .ok (.aload_n 0, 1) := by decide +kernel
theorem dX11_head_119 : decode cX11_head 119 = .ok (.invokevirtual 158, 3) := by decide +kernel
theorem dX11_head_122 : decode cX11_head 122 = .ok (.istore_n 1, 1) := by decide +kernel
theorem dX11_head_123 : decode cX11_head 123 = .ok (.aload_n 0, 1) := by decide +kernel
theorem dX11_head_124 : decode cX11_head 124 = .ok (.iconst 0, 1) := by decide +kernel
theorem dX11_head_125 : decode cX11_head 125 = .ok (.putfield 117, 3) := by decide +kernel
theorem dX11_head_128 : decode cX11_head 128 = .ok (.aload_n 0, 1) := by decide +kernel
theorem dX11_head_129 : decode cX11_head 129 = .ok (.getfield 129, 3) := by decide +kernel
theorem dX11_head_132 : decode cX11_head 132 = .ok (.ifCond .lt 11, 3) := by decide +kernel
theorem dX11_head_135 : decode cX11_head 135 = .ok (.bipush (-100), 2) := by decide +kernel
theorem dX11_head_137 : decode cX11_head 137 = .ok (.aload_n 0, 1) := by decide +kernel
theorem dX11_head_138 : decode cX11_head 138 = .ok (.getfield 129, 3) := by decide +kernel
theorem dX11_head_141 : decode cX11_head 141 = .ok (.isub, 1) := by decide +kernel
theorem dX11_head_142 : decode cX11_head 142 = .ok (.ireturn, 1) := by decide +kernel
theorem dX11_head_143 : decode cX11_head 143 = .ok (.iconst 0, 1) := by decide +kernel
theorem dX11_head_144 : decode cX11_head 144 = .ok (.istore_n 1, 1) := by decide +kernel
theorem dX11_head_145 : decode cX11_head 145 = .ok (.iload_n 1, 1) := by decide +kernel
theorem dX11_head_146 : decode cX11_head 146 = .ok (.iconst 5, 1) := by decide +kernel
theorem dX11_head_147 : decode cX11_head 147 = .ok (.if_icmp .ge 28, 3) := by decide +kernel
theorem dX11_head_150 : decode cX11_head 150 = .ok (.aload_n 0, 1) := by decide +kernel
theorem dX11_head_151 : decode cX11_head 151 = .ok (.getfield 9, 3) := by decide +kernel
theorem dX11_head_154 : decode cX11_head 154 = .ok (.iconst 5, 1) := by decide +kernel
theorem dX11_head_155 : decode cX11_head 155 = .ok (.aload_n 0, 1) := by decide +kernel
theorem dX11_head_156 : decode cX11_head 156 = .ok (.getfield 172, 3) := by decide +kernel
theorem dX11_head_159 : decode cX11_head 159 = .ok (.imul, 1) := by decide +kernel
theorem dX11_head_160 : decode cX11_head 160 = .ok (.iload_n 1, 1) := by decide +kernel
theorem dX11_head_161 : decode cX11_head 161 = .ok (.iadd, 1) := by decide +kernel
theorem dX11_head_162 : decode cX11_head 162 = .ok (.aload_n 0, 1) := by decide +kernel
theorem dX11_head_163 : decode cX11_head 163 = .ok (.getfield 31, 3) := by decide +kernel
theorem dX11_head_166 : decode cX11_head 166 = .ok (.iload_n 1, 1) := by decide +kernel
theorem dX11_head_167 : decode cX11_head 167 = .ok (.iaload, 1) := by decide +kernel
theorem dX11_head_168 : decode cX11_head 168 = .ok (.iastore, 1) := by decide +kernel
theorem dX11_head_169 : decode cX11_head 169 = .ok (.iinc 1 1, 3) := by decide +kernel
theorem dX11_head_172 : decode cX11_head 172 = .ok (.goto (-27), 3) := by decide +kernel
theorem dX11_head_175 : decode cX11_head 175 = .ok (.aload_n 0, 1) := by decide +kernel
theorem dX11_head_176 : decode cX11_head 176 = .ok (.dup, 1) := by decide +kernel
theorem dX11_head_177 : decode cX11_head 177 = .ok (.getfield 172, 3) := by decide +kernel
theorem dX11_head_180 : decode cX11_head 180 = .ok (.iconst 1, 1) := by decide +kernel
theorem dX11_head_181 : decode cX11_head 181 = .ok (.iadd, 1) := by decide +kernel
theorem dX11_head_182 : decode cX11_head 182 = .ok (.putfield 172, 3) := by decide +kernel
theorem dX11_head_185 : decode cX11_head 185 = .ok (.aload_n 0, 1) := by decide +kernel
theorem dX11_head_186 : decode cX11_head 186 = .ok (.getfield 172, 3) := by decide +kernel
theorem dX11_head_189 : decode cX11_head 189 = .ok (.iconst 1, 1) := by decide +kernel
theorem dX11_head_190 : decode cX11_head 190 = .ok (.isub, 1) := by decide +kernel
theorem dX11_head_191 : decode cX11_head 191 = .ok (.ireturn, 1) := by decide +kernel
theorem dX11_of_0 : decode cX11_of 0 = .ok (.aload_n 0, 1) := by decide +kernel
theorem dX11_of_1 : decode cX11_of 1 = .ok (.iload_n 1, 1) := by decide +kernel
theorem dX11_of_2 : decode cX11_of 2 = .ok (.invokevirtual 188, 3) := by decide +kernel
theorem dX11_of_5 : decode cX11_of 5 = .ok (.ifCond .ne 5, 3) := by decide +kernel
theorem dX11_of_8 : decode cX11_of 8 = .ok (.iconst (-1), 1) := by decide +kernel
theorem dX11_of_9 : decode cX11_of 9 = .ok (.ireturn, 1) := by decide +kernel
theorem dX11_of_10 : decode cX11_of 10 = .ok (.iload_n 2, 1) := by decide +kernel
theorem dX11_of_11 : decode cX11_of 11 = .ok (.i2l, 1) := by decide +kernel
theorem dX11_of_12 : decode cX11_of 12 = .ok (.lconst 0, 1) := by decide +kernel
theorem dX11_of_13 : decode cX11_of 13 = .ok (.ldc2_w 111, 3) := by decide +kernel
theorem dX11_of_16 : decode cX11_of 16 = .ok (.invokestatic 113, 3) := by decide +kernel
theorem dX11_of_19 : decode cX11_of 19 = .ok (.ifCond .eq 16, 3) := by decide +kernel
theorem dX11_of_22 : decode cX11_of 22 = .ok (.aload_n 0, 1) := by decide +kernel
theorem dX11_of_23 : decode cX11_of 23 = .ok (.getfield 9, 3) := by decide +kernel
theorem dX11_of_26 : decode cX11_of 26 = .ok (.iconst 5, 1) := by decide +kernel
theorem dX11_of_27 : decode cX11_of 27 = .ok (.iload_n 1, 1) := by decide +kernel
theorem dX11_of_28 : decode cX11_of 28 = .ok (.imul, 1) := by decide +kernel
theorem dX11_of_29 : decode cX11_of 29 = .ok (.iload_n 2, 1) := by decide +kernel
theorem dX11_of_30 : decode cX11_of 30 = .ok (.iadd, 1) := by decide +kernel
theorem dX11_of_31 : decode cX11_of 31 = .ok (.iaload, 1) := by decide +kernel
theorem dX11_of_32 : decode cX11_of 32 = .ok (.goto 17, 3) := by decide +kernel
theorem dX11_of_35 : decode cX11_of 35 = .ok (.iload_n 2, 1) := by decide +kernel
theorem dX11_of_36 : decode cX11_of 36 = .ok (.iconst 5, 1) := by decide +kernel
theorem dX11_of_37 : decode cX11_of 37 = .ok (.if_icmp .ne 11, 3) := by decide +kernel
theorem dX11_of_40 : decode cX11_of 40 = .ok (.aload_n 0, 1) := by decide +kernel
theorem dX11_of_41 : decode cX11_of 41 = .ok (.iload_n 1, 1) := by decide +kernel
theorem dX11_of_42 : decode cX11_of 42 = .ok (.invokevirtual 191, 3) := by decide +kernel
theorem dX11_of_45 : decode cX11_of 45 = .ok (.goto 4, 3) := by decide +kernel
theorem dX11_of_48 : decode cX11_of 48 = .ok (.iconst (-1), 1) := by decide +kernel
theorem dX11_of_49 : decode cX11_of 49 = .ok (.ireturn, 1) := by decide +kernel
theorem dX11_turn_0 : decode cX11_turn 0 = .ok (.aload_n 0, 1) := by decide +kernel
theorem dX11_turn_1 : decode cX11_turn 1 = .ok (.iload_n 1, 1) := by decide +kernel
theorem dX11_turn_2 : decode cX11_turn 2 = .ok (.invokevirtual 188, 3) := by decide +kernel
theorem dX11_turn_5 : decode cX11_turn 5 = .ok (.ifCond .eq 36, 3) := by decide +kernel
theorem dX11_turn_8 : decode cX11_turn 8 = .ok (.iload_n 2, 1) := by decide +kernel
theorem dX11_turn_9 : decode cX11_turn 9 = .ok (.i2l, 1) := by decide +kernel
theorem dX11_turn_10 : decode cX11_turn 10 = .ok (.lconst 0, 1) := by decide +kernel
theorem dX11_turn_11 : decode cX11_turn 11 = .ok (.ldc2_w 111, 3) := by decide +kernel
theorem dX11_turn_14 : decode cX11_turn 14 = .ok (.invokestatic 113, 3) := by decide +kernel
theorem dX11_turn_17 : decode cX11_turn 17 = .ok (.ifCond .eq 24, 3) := by decide +kernel
theorem dX11_turn_20 : decode cX11_turn 20 = .ok (.iload_n 2, 1) := by decide +kernel
theorem dX11_turn_21 : decode cX11_turn 21 = .ok (.iload_n 3, 1) := by decide +kernel
theorem dX11_turn_22 : decode cX11_turn 22 = .ok (.invokestatic 181, 3) := by decide +kernel
theorem dX11_turn_25 : decode cX11_turn 25 = .ok (.ifCond .eq 16, 3) := by decide +kernel
theorem dX11_turn_28 : decode cX11_turn 28 = .ok (.aload_n 0, 1) := by decide +kernel
theorem dX11_turn_29 : decode cX11_turn 29 = .ok (.iconst 5, 1) := by decide +kernel
theorem dX11_turn_30 : decode cX11_turn 30 = .ok (.iload_n 1, 1) := by decide +kernel
theorem dX11_turn_31 : decode cX11_turn 31 = .ok (.imul, 1) := by decide +kernel
theorem dX11_turn_32 : decode cX11_turn 32 = .ok (.iload_n 2, 1) := by decide +kernel
theorem dX11_turn_33 : decode cX11_turn 33 = .ok (.iadd, 1) := by decide +kernel
theorem dX11_turn_34 : decode cX11_turn 34 = .ok (.iload_n 3, 1) := by decide +kernel
theorem dX11_turn_35 : decode cX11_turn 35 = .ok (.invokevirtual 194, 3) := by decide +kernel
theorem dX11_turn_38 : decode cX11_turn 38 = .ok (.goto 4, 3) := by decide +kernel
theorem dX11_turn_41 : decode cX11_turn 41 = .ok (.iconst (-1), 1) := by decide +kernel
theorem dX11_turn_42 : decode cX11_turn 42 = .ok (.ireturn, 1) := by decide +kernel
theorem dX11_isAsk_0 : decode cX11_isAsk 0 = .ok (.iload_n 0, 1) := by decide +kernel
theorem dX11_isAsk_1 : decode cX11_isAsk 1 = .ok (.ifCond .lt 39, 3) := by decide +kernel
theorem dX11_isAsk_4 : decode cX11_isAsk 4 = .ok (.iload_n 0, 1) := by decide +kernel
theorem dX11_isAsk_5 : decode cX11_isAsk 5 = .ok (.sipush 10000, 3) := by decide +kernel
theorem dX11_isAsk_8 : decode cX11_isAsk 8 = .ok (.idiv, 1) := by decide +kernel
theorem dX11_isAsk_9 : decode cX11_isAsk 9 = .ok (.i2l, 1) := by decide +kernel
theorem dX11_isAsk_10 : decode cX11_isAsk 10 = .ok (.lconst 1, 1) := by decide +kernel
theorem dX11_isAsk_11 : decode cX11_isAsk 11 = .ok (.ldc2_w 197, 3) := by decide +kernel
theorem dX11_isAsk_14 : decode cX11_isAsk 14 = .ok (.invokestatic 113, 3) := by decide +kernel
theorem dX11_isAsk_17 : decode cX11_isAsk 17 = .ok (.ifCond .eq 23, 3) := by decide +kernel
theorem dX11_isAsk_20 : decode cX11_isAsk 20 = .ok (.iload_n 0, 1) := by decide +kernel
theorem dX11_isAsk_21 : decode cX11_isAsk 21 = .ok (.sipush 10000, 3) := by decide +kernel
theorem dX11_isAsk_24 : decode cX11_isAsk 24 = .ok (.irem, 1) := by decide +kernel
theorem dX11_isAsk_25 : decode cX11_isAsk 25 = .ok (.i2l, 1) := by decide +kernel
theorem dX11_isAsk_26 : decode cX11_isAsk 26 = .ok (.lconst 1, 1) := by decide +kernel
theorem dX11_isAsk_27 : decode cX11_isAsk 27 = .ok (.ldc2_w 197, 3) := by decide +kernel
theorem dX11_isAsk_30 : decode cX11_isAsk 30 = .ok (.invokestatic 113, 3) := by decide +kernel
theorem dX11_isAsk_33 : decode cX11_isAsk 33 = .ok (.ifCond .eq 7, 3) := by decide +kernel
theorem dX11_isAsk_36 : decode cX11_isAsk 36 = .ok (.iconst 1, 1) := by decide +kernel
theorem dX11_isAsk_37 : decode cX11_isAsk 37 = .ok (.goto 4, 3) := by decide +kernel
theorem dX11_isAsk_40 : decode cX11_isAsk 40 = .ok (.iconst 0, 1) := by decide +kernel
theorem dX11_isAsk_41 : decode cX11_isAsk 41 = .ok (.ireturn, 1) := by decide +kernel
theorem dX11_isSmall_0 : decode cX11_isSmall 0 = .ok (.iload_n 0, 1) := by decide +kernel
theorem dX11_isSmall_1 : decode cX11_isSmall 1 = .ok (.sipush 10000, 3) := by decide +kernel
theorem dX11_isSmall_4 : decode cX11_isSmall 4 = .ok (.idiv, 1) := by decide +kernel
theorem dX11_isSmall_5 : decode cX11_isSmall 5 = .ok (.bipush 99, 2) := by decide +kernel
theorem dX11_isSmall_7 : decode cX11_isSmall 7 = .ok (.if_icmp .gt 17, 3) := by decide +kernel
theorem dX11_isSmall_10 : decode cX11_isSmall 10 = .ok (.iload_n 0, 1) := by decide +kernel
theorem dX11_isSmall_11 : decode cX11_isSmall 11 = .ok (.sipush 10000, 3) := by decide +kernel
theorem dX11_isSmall_14 : decode cX11_isSmall 14 = .ok (.irem, 1) := by decide +kernel
theorem dX11_isSmall_15 : decode cX11_isSmall 15 = .ok (.bipush 99, 2) := by decide +kernel
theorem dX11_isSmall_17 : decode cX11_isSmall 17 = .ok (.if_icmp .gt 7, 3) := by decide +kernel
theorem dX11_isSmall_20 : decode cX11_isSmall 20 = .ok (.iconst 1, 1) := by decide +kernel
theorem dX11_isSmall_21 : decode cX11_isSmall 21 = .ok (.goto 4, 3) := by decide +kernel
theorem dX11_isSmall_24 : decode cX11_isSmall 24 = .ok (.iconst 0, 1) := by decide +kernel
theorem dX11_isSmall_25 : decode cX11_isSmall 25 = .ok (.ireturn, 1) := by decide +kernel
theorem dX11_asPair_0 : decode cX11_asPair 0 = .ok (.iload_n 0, 1) := by decide +kernel
theorem dX11_asPair_1 : decode cX11_asPair 1 = .ok (.sipush 10000, 3) := by decide +kernel
theorem dX11_asPair_4 : decode cX11_asPair 4 = .ok (.idiv, 1) := by decide +kernel
theorem dX11_asPair_5 : decode cX11_asPair 5 = .ok (.istore_n 1, 1) := by decide +kernel
theorem dX11_asPair_6 : decode cX11_asPair 6 = .ok (.iload_n 0, 1) := by decide +kernel
theorem dX11_asPair_7 : decode cX11_asPair 7 = .ok (.sipush 10000, 3) := by decide +kernel
theorem dX11_asPair_10 : decode cX11_asPair 10 = .ok (.irem, 1) := by decide +kernel
theorem dX11_asPair_11 : decode cX11_asPair 11 = .ok (.istore_n 2, 1) := by decide +kernel
theorem dX11_asPair_12 : decode cX11_asPair 12 = .ok (.iload_n 1, 1) := by decide +kernel
theorem dX11_asPair_13 : decode cX11_asPair 13 = .ok (.iload_n 2, 1) := by decide +kernel
theorem dX11_asPair_14 : decode cX11_asPair 14 = .ok (.if_icmp .ge 12, 3) := by decide +kernel
theorem dX11_asPair_17 : decode cX11_asPair 17 = .ok (.bipush 100, 2) := by decide +kernel
theorem dX11_asPair_19 : decode cX11_asPair 19 = .ok (.iload_n 1, 1) := by decide +kernel
theorem dX11_asPair_20 : decode cX11_asPair 20 = .ok (.imul, 1) := by decide +kernel
theorem dX11_asPair_21 : decode cX11_asPair 21 = .ok (.iload_n 2, 1) := by decide +kernel
theorem dX11_asPair_22 : decode cX11_asPair 22 = .ok (.iadd, 1) := by decide +kernel
theorem dX11_asPair_23 : decode cX11_asPair 23 = .ok (.goto 9, 3) := by decide +kernel
theorem dX11_asPair_26 : decode cX11_asPair 26 = .ok (.bipush 100, 2) := by decide +kernel
theorem dX11_asPair_28 : decode cX11_asPair 28 = .ok (.iload_n 2, 1) := by decide +kernel
theorem dX11_asPair_29 : decode cX11_asPair 29 = .ok (.imul, 1) := by decide +kernel
theorem dX11_asPair_30 : decode cX11_asPair 30 = .ok (.iload_n 1, 1) := by decide +kernel
theorem dX11_asPair_31 : decode cX11_asPair 31 = .ok (.iadd, 1) := by decide +kernel
theorem dX11_asPair_32 : decode cX11_asPair 32 = .ok (.ireturn, 1) := by decide +kernel
theorem dX11_pairAt_0 : decode cX11_pairAt 0 = .ok (.iconst 0, 1) := by decide +kernel
theorem dX11_pairAt_1 : decode cX11_pairAt 1 = .ok (.istore_n 3, 1) := by decide +kernel
theorem dX11_pairAt_2 : decode cX11_pairAt 2 = .ok (.iload_n 3, 1) := by decide +kernel
theorem dX11_pairAt_3 : decode cX11_pairAt 3 = .ok (.aload_n 0, 1) := by decide +kernel
theorem dX11_pairAt_4 : decode cX11_pairAt 4 = .ok (.getfield 34, 3) := by decide +kernel
theorem dX11_pairAt_7 : decode cX11_pairAt 7 = .ok (.iload_n 1, 1) := by decide +kernel
theorem dX11_pairAt_8 : decode cX11_pairAt 8 = .ok (.iaload, 1) := by decide +kernel
theorem dX11_pairAt_9 : decode cX11_pairAt 9 = .ok (.if_icmp .ge 29, 3) := by decide +kernel
theorem dX11_pairAt_12 : decode cX11_pairAt 12 = .ok (.aload_n 0, 1) := by decide +kernel
theorem dX11_pairAt_13 : decode cX11_pairAt 13 = .ok (.getfield 37, 3) := by decide +kernel
theorem dX11_pairAt_16 : decode cX11_pairAt 16 = .ok (.bipush 60, 2) := by decide +kernel
theorem dX11_pairAt_18 : decode cX11_pairAt 18 = .ok (.iload_n 1, 1) := by decide +kernel
theorem dX11_pairAt_19 : decode cX11_pairAt 19 = .ok (.imul, 1) := by decide +kernel
theorem dX11_pairAt_20 : decode cX11_pairAt 20 = .ok (.iload_n 3, 1) := by decide +kernel
theorem dX11_pairAt_21 : decode cX11_pairAt 21 = .ok (.iadd, 1) := by decide +kernel
theorem dX11_pairAt_22 : decode cX11_pairAt 22 = .ok (.iaload, 1) := by decide +kernel
theorem dX11_pairAt_23 : decode cX11_pairAt 23 = .ok (.iload_n 2, 1) := by decide +kernel
theorem dX11_pairAt_24 : decode cX11_pairAt 24 = .ok (.invokestatic 199, 3) := by decide +kernel
theorem dX11_pairAt_27 : decode cX11_pairAt 27 = .ok (.if_icmp .ne 5, 3) := by decide +kernel
theorem dX11_pairAt_30 : decode cX11_pairAt 30 = .ok (.iload_n 3, 1) := by decide +kernel
theorem dX11_pairAt_31 : decode cX11_pairAt 31 = .ok (.ireturn, 1) := by decide +kernel
theorem dX11_pairAt_32 : decode cX11_pairAt 32 = .ok (.iinc 3 1, 3) := by decide +kernel
theorem dX11_pairAt_35 : decode cX11_pairAt 35 = .ok (.goto (-33), 3) := by decide +kernel
theorem dX11_pairAt_38 : decode cX11_pairAt 38 = .ok (.iconst (-1), 1) := by decide +kernel
theorem dX11_pairAt_39 : decode cX11_pairAt 39 = .ok (.ireturn, 1) := by decide +kernel
theorem dX11_isLearnt_0 : decode cX11_isLearnt 0 = .ok (.iload_n 2, 1) := by decide +kernel
theorem dX11_isLearnt_1 : decode cX11_isLearnt 1 = .ok (.invokestatic 202, 3) := by decide +kernel
theorem dX11_isLearnt_4 : decode cX11_isLearnt 4 = .ok (.ifCond .eq 12, 3) := by decide +kernel
theorem dX11_isLearnt_7 : decode cX11_isLearnt 7 = .ok (.aload_n 0, 1) := by decide +kernel
theorem dX11_isLearnt_8 : decode cX11_isLearnt 8 = .ok (.iload_n 1, 1) := by decide +kernel
theorem dX11_isLearnt_9 : decode cX11_isLearnt 9 = .ok (.iload_n 2, 1) := by decide +kernel
theorem dX11_isLearnt_10 : decode cX11_isLearnt 10 = .ok (.invokevirtual 205, 3) := by decide +kernel
theorem dX11_isLearnt_13 : decode cX11_isLearnt 13 = .ok (.goto 4, 3) := by decide +kernel
theorem dX11_isLearnt_16 : decode cX11_isLearnt 16 = .ok (.iconst (-1), 1) := by decide +kernel
theorem dX11_isLearnt_17 : decode cX11_isLearnt 17 = .ok (.istore_n 3, 1) := by decide +kernel
theorem dX11_isLearnt_18 : decode cX11_isLearnt 18 = .ok (.iload_n 3, 1) := by decide +kernel
theorem dX11_isLearnt_19 : decode cX11_isLearnt 19 = .ok (.ifCond .lt 22, 3) := by decide +kernel
theorem dX11_isLearnt_22 : decode cX11_isLearnt 22 = .ok (.aload_n 0, 1) := by decide +kernel
theorem dX11_isLearnt_23 : decode cX11_isLearnt 23 = .ok (.getfield 40, 3) := by decide +kernel
theorem dX11_isLearnt_26 : decode cX11_isLearnt 26 = .ok (.bipush 60, 2) := by decide +kernel
theorem dX11_isLearnt_28 : decode cX11_isLearnt 28 = .ok (.iload_n 1, 1) := by decide +kernel
theorem dX11_isLearnt_29 : decode cX11_isLearnt 29 = .ok (.imul, 1) := by decide +kernel
theorem dX11_isLearnt_30 : decode cX11_isLearnt 30 = .ok (.iload_n 3, 1) := by decide +kernel
theorem dX11_isLearnt_31 : decode cX11_isLearnt 31 = .ok (.iadd, 1) := by decide +kernel
theorem dX11_isLearnt_32 : decode cX11_isLearnt 32 = .ok (.iaload, 1) := by decide +kernel
theorem dX11_isLearnt_33 : decode cX11_isLearnt 33 = .ok (.iconst 3, 1) := by decide +kernel
theorem dX11_isLearnt_34 : decode cX11_isLearnt 34 = .ok (.if_icmp .lt 7, 3) := by decide +kernel
theorem dX11_isLearnt_37 : decode cX11_isLearnt 37 = .ok (.iconst 1, 1) := by decide +kernel
theorem dX11_isLearnt_38 : decode cX11_isLearnt 38 = .ok (.goto 4, 3) := by decide +kernel
theorem dX11_isLearnt_41 : decode cX11_isLearnt 41 = .ok (.iconst 0, 1) := by decide +kernel
theorem dX11_isLearnt_42 : decode cX11_isLearnt 42 = .ok (.ireturn, 1) := by decide +kernel
theorem dX11_learntOf_0 : decode cX11_learntOf 0 = .ok (.iconst 0, 1) := by decide +kernel
theorem dX11_learntOf_1 : decode cX11_learntOf 1 = .ok (.istore_n 2, 1) := by decide +kernel
theorem dX11_learntOf_2 : decode cX11_learntOf 2 = .ok (.iconst 0, 1) := by decide +kernel
theorem dX11_learntOf_3 : decode cX11_learntOf 3 = .ok (.istore_n 3, 1) := by decide +kernel
theorem dX11_learntOf_4 : decode cX11_learntOf 4 = .ok (.iload_n 3, 1) := by decide +kernel
theorem dX11_learntOf_5 : decode cX11_learntOf 5 = .ok (.aload_n 0, 1) := by decide +kernel
theorem dX11_learntOf_6 : decode cX11_learntOf 6 = .ok (.getfield 34, 3) := by decide +kernel
theorem dX11_learntOf_9 : decode cX11_learntOf 9 = .ok (.iload_n 1, 1) := by decide +kernel
theorem dX11_learntOf_10 : decode cX11_learntOf 10 = .ok (.iaload, 1) := by decide +kernel
theorem dX11_learntOf_11 : decode cX11_learntOf 11 = .ok (.if_icmp .ge 32, 3) := by decide +kernel
theorem dX11_learntOf_14 : decode cX11_learntOf 14 = .ok (.iload_n 2, 1) := by decide +kernel
theorem dX11_learntOf_15 : decode cX11_learntOf 15 = .ok (.aload_n 0, 1) := by decide +kernel
theorem dX11_learntOf_16 : decode cX11_learntOf 16 = .ok (.getfield 40, 3) := by decide +kernel
theorem dX11_learntOf_19 : decode cX11_learntOf 19 = .ok (.bipush 60, 2) := by decide +kernel
theorem dX11_learntOf_21 : decode cX11_learntOf 21 = .ok (.iload_n 1, 1) := by decide +kernel
theorem dX11_learntOf_22 : decode cX11_learntOf 22 = .ok (.imul, 1) := by decide +kernel
theorem dX11_learntOf_23 : decode cX11_learntOf 23 = .ok (.iload_n 3, 1) := by decide +kernel
theorem dX11_learntOf_24 : decode cX11_learntOf 24 = .ok (.iadd, 1) := by decide +kernel
theorem dX11_learntOf_25 : decode cX11_learntOf 25 = .ok (.iaload, 1) := by decide +kernel
theorem dX11_learntOf_26 : decode cX11_learntOf 26 = .ok (.iconst 3, 1) := by decide +kernel
theorem dX11_learntOf_27 : decode cX11_learntOf 27 = .ok (.if_icmp .lt 7, 3) := by decide +kernel
theorem dX11_learntOf_30 : decode cX11_learntOf 30 = .ok (.iconst 1, 1) := by decide +kernel
theorem dX11_learntOf_31 : decode cX11_learntOf 31 = .ok (.goto 4, 3) := by decide +kernel
theorem dX11_learntOf_34 : decode cX11_learntOf 34 = .ok (.iconst 0, 1) := by decide +kernel
theorem dX11_learntOf_35 : decode cX11_learntOf 35 = .ok (.iadd, 1) := by decide +kernel
theorem dX11_learntOf_36 : decode cX11_learntOf 36 = .ok (.istore_n 2, 1) := by decide +kernel
theorem dX11_learntOf_37 : decode cX11_learntOf 37 = .ok (.iinc 3 1, 3) := by decide +kernel
theorem dX11_learntOf_40 : decode cX11_learntOf 40 = .ok (.goto (-36), 3) := by decide +kernel
theorem dX11_learntOf_43 : decode cX11_learntOf 43 = .ok (.iload_n 2, 1) := by decide +kernel
theorem dX11_learntOf_44 : decode cX11_learntOf 44 = .ok (.ireturn, 1) := by decide +kernel
theorem dX11_askOf_0 : decode cX11_askOf 0 = .ok (.iload_n 2, 1) := by decide +kernel
theorem dX11_askOf_1 : decode cX11_askOf 1 = .ok (.invokestatic 202, 3) := by decide +kernel
theorem dX11_askOf_4 : decode cX11_askOf 4 = .ok (.ifCond .ne 5, 3) := by decide +kernel
theorem dX11_askOf_7 : decode cX11_askOf 7 = .ok (.iconst 0, 1) := by decide +kernel
theorem dX11_askOf_8 : decode cX11_askOf 8 = .ok (.ireturn, 1) := by decide +kernel
theorem dX11_askOf_9 : decode cX11_askOf 9 = .ok (.aload_n 0, 1) := by decide +kernel
theorem dX11_askOf_10 : decode cX11_askOf 10 = .ok (.iload_n 1, 1) := by decide +kernel
theorem dX11_askOf_11 : decode cX11_askOf 11 = .ok (.iload_n 2, 1) := by decide +kernel
theorem dX11_askOf_12 : decode cX11_askOf 12 = .ok (.invokevirtual 205, 3) := by decide +kernel
theorem dX11_askOf_15 : decode cX11_askOf 15 = .ok (.istore_n 3, 1) := by decide +kernel
theorem dX11_askOf_16 : decode cX11_askOf 16 = .ok (.iload_n 3, 1) := by decide +kernel
theorem dX11_askOf_17 : decode cX11_askOf 17 = .ok (.ifCond .ge 16, 3) := by decide +kernel
theorem dX11_askOf_20 : decode cX11_askOf 20 = .ok (.aload_n 0, 1) := by decide +kernel
theorem dX11_askOf_21 : decode cX11_askOf 21 = .ok (.getfield 34, 3) := by decide +kernel
theorem dX11_askOf_24 : decode cX11_askOf 24 = .ok (.iload_n 1, 1) := by decide +kernel
theorem dX11_askOf_25 : decode cX11_askOf 25 = .ok (.iaload, 1) := by decide +kernel
theorem dX11_askOf_26 : decode cX11_askOf 26 = .ok (.bipush 60, 2) := by decide +kernel
theorem dX11_askOf_28 : decode cX11_askOf 28 = .ok (.if_icmp .ne 5, 3) := by decide +kernel
theorem dX11_askOf_31 : decode cX11_askOf 31 = .ok (.iconst 0, 1) := by decide +kernel
theorem dX11_askOf_32 : decode cX11_askOf 32 = .ok (.ireturn, 1) := by decide +kernel
theorem dX11_askOf_33 : decode cX11_askOf 33 = .ok (.iload_n 3, 1) := by decide +kernel
theorem dX11_askOf_34 : decode cX11_askOf 34 = .ok (.ifCond .ge 47, 3) := by decide +kernel
theorem dX11_askOf_37 : decode cX11_askOf 37 = .ok (.aload_n 0, 1) := by decide +kernel
theorem dX11_askOf_38 : decode cX11_askOf 38 = .ok (.getfield 34, 3) := by decide +kernel
theorem dX11_askOf_41 : decode cX11_askOf 41 = .ok (.iload_n 1, 1) := by decide +kernel
theorem dX11_askOf_42 : decode cX11_askOf 42 = .ok (.iaload, 1) := by decide +kernel
theorem dX11_askOf_43 : decode cX11_askOf 43 = .ok (.istore_n 3, 1) := by decide +kernel
theorem dX11_askOf_44 : decode cX11_askOf 44 = .ok (.aload_n 0, 1) := by decide +kernel
theorem dX11_askOf_45 : decode cX11_askOf 45 = .ok (.getfield 37, 3) := by decide +kernel
theorem dX11_askOf_48 : decode cX11_askOf 48 = .ok (.bipush 60, 2) := by decide +kernel
theorem dX11_askOf_50 : decode cX11_askOf 50 = .ok (.iload_n 1, 1) := by decide +kernel
theorem dX11_askOf_51 : decode cX11_askOf 51 = .ok (.imul, 1) := by decide +kernel
theorem dX11_askOf_52 : decode cX11_askOf 52 = .ok (.iload_n 3, 1) := by decide +kernel
theorem dX11_askOf_53 : decode cX11_askOf 53 = .ok (.iadd, 1) := by decide +kernel
theorem dX11_askOf_54 : decode cX11_askOf 54 = .ok (.iload_n 2, 1) := by decide +kernel
theorem dX11_askOf_55 : decode cX11_askOf 55 = .ok (.invokestatic 199, 3) := by decide +kernel
theorem dX11_askOf_58 : decode cX11_askOf 58 = .ok (.iastore, 1) := by decide +kernel
theorem dX11_askOf_59 : decode cX11_askOf 59 = .ok (.aload_n 0, 1) := by decide +kernel
theorem dX11_askOf_60 : decode cX11_askOf 60 = .ok (.getfield 40, 3) := by decide +kernel
theorem dX11_askOf_63 : decode cX11_askOf 63 = .ok (.bipush 60, 2) := by decide +kernel
theorem dX11_askOf_65 : decode cX11_askOf 65 = .ok (.iload_n 1, 1) := by decide +kernel
theorem dX11_askOf_66 : decode cX11_askOf 66 = .ok (.imul, 1) := by decide +kernel
theorem dX11_askOf_67 : decode cX11_askOf 67 = .ok (.iload_n 3, 1) := by decide +kernel
theorem dX11_askOf_68 : decode cX11_askOf 68 = .ok (.iadd, 1) := by decide +kernel
theorem dX11_askOf_69 : decode cX11_askOf 69 = .ok (.iconst 0, 1) := by decide +kernel
theorem dX11_askOf_70 : decode cX11_askOf 70 = .ok (.iastore, 1) := by decide +kernel
theorem dX11_askOf_71 : decode cX11_askOf 71 = .ok (.aload_n 0, 1) := by decide +kernel
theorem dX11_askOf_72 : decode cX11_askOf 72 = .ok (.getfield 34, 3) := by decide +kernel
theorem dX11_askOf_75 : decode cX11_askOf 75 = .ok (.iload_n 1, 1) := by decide +kernel
theorem dX11_askOf_76 : decode cX11_askOf 76 = .ok (.dup2, 1) := by decide +kernel
theorem dX11_askOf_77 : decode cX11_askOf 77 = .ok (.iaload, 1) := by decide +kernel
theorem dX11_askOf_78 : decode cX11_askOf 78 = .ok (.iconst 1, 1) := by decide +kernel
theorem dX11_askOf_79 : decode cX11_askOf 79 = .ok (.iadd, 1) := by decide +kernel
theorem dX11_askOf_80 : decode cX11_askOf 80 = .ok (.iastore, 1) := by decide +kernel
theorem dX11_askOf_81 : decode cX11_askOf 81 = .ok (.aload_n 0, 1) := by decide +kernel
theorem dX11_askOf_82 : decode cX11_askOf 82 = .ok (.getfield 40, 3) := by decide +kernel
theorem dX11_askOf_85 : decode cX11_askOf 85 = .ok (.bipush 60, 2) := by decide +kernel
theorem dX11_askOf_87 : decode cX11_askOf 87 = .ok (.iload_n 1, 1) := by decide +kernel
theorem dX11_askOf_88 : decode cX11_askOf 88 = .ok (.imul, 1) := by decide +kernel
theorem dX11_askOf_89 : decode cX11_askOf 89 = .ok (.iload_n 3, 1) := by decide +kernel
theorem dX11_askOf_90 : decode cX11_askOf 90 = .ok (.iadd, 1) := by decide +kernel
theorem dX11_askOf_91 : decode cX11_askOf 91 = .ok (.dup2, 1) := by decide +kernel
theorem dX11_askOf_92 : decode cX11_askOf 92 = .ok (.iaload, 1) := by decide +kernel
theorem dX11_askOf_93 : decode cX11_askOf 93 = .ok (.iconst 1, 1) := by decide +kernel
theorem dX11_askOf_94 : decode cX11_askOf 94 = .ok (.iadd, 1) := by decide +kernel
theorem dX11_askOf_95 : decode cX11_askOf 95 = .ok (.iastore, 1) := by decide +kernel
theorem dX11_askOf_96 : decode cX11_askOf 96 = .ok (.aload_n 0, 1) := by decide +kernel
theorem dX11_askOf_97 : decode cX11_askOf 97 = .ok (.getfield 40, 3) := by decide +kernel
theorem dX11_askOf_100 : decode cX11_askOf 100 = .ok (.bipush 60, 2) := by decide +kernel
theorem dX11_askOf_102 : decode cX11_askOf 102 = .ok (.iload_n 1, 1) := by decide +kernel
theorem dX11_askOf_103 : decode cX11_askOf 103 = .ok (.imul, 1) := by decide +kernel
theorem dX11_askOf_104 : decode cX11_askOf 104 = .ok (.iload_n 3, 1) := by decide +kernel
theorem dX11_askOf_105 : decode cX11_askOf 105 = .ok (.iadd, 1) := by decide +kernel
theorem dX11_askOf_106 : decode cX11_askOf 106 = .ok (.iaload, 1) := by decide +kernel
theorem dX11_askOf_107 : decode cX11_askOf 107 = .ok (.ireturn, 1) := by decide +kernel
theorem dX11_ask_0 : decode cX11_ask 0 = .ok (.aload_n 0, 1) := by decide +kernel
theorem dX11_ask_1 : decode cX11_ask 1 = .ok (.iload_n 1, 1) := by decide +kernel
theorem dX11_ask_2 : decode cX11_ask 2 = .ok (.invokevirtual 188, 3) := by decide +kernel
theorem dX11_ask_5 : decode cX11_ask 5 = .ok (.ifCond .eq 19, 3) := by decide +kernel
theorem dX11_ask_8 : decode cX11_ask 8 = .ok (.iload_n 2, 1) := by decide +kernel
theorem dX11_ask_9 : decode cX11_ask 9 = .ok (.invokestatic 208, 3) := by decide +kernel
theorem dX11_ask_12 : decode cX11_ask 12 = .ok (.ifCond .eq 12, 3) := by decide +kernel
theorem dX11_ask_15 : decode cX11_ask 15 = .ok (.aload_n 0, 1) := by decide +kernel
theorem dX11_ask_16 : decode cX11_ask 16 = .ok (.iload_n 1, 1) := by decide +kernel
theorem dX11_ask_17 : decode cX11_ask 17 = .ok (.iload_n 2, 1) := by decide +kernel
theorem dX11_ask_18 : decode cX11_ask 18 = .ok (.invokevirtual 211, 3) := by decide +kernel
theorem dX11_ask_21 : decode cX11_ask 21 = .ok (.goto 4, 3) := by decide +kernel
theorem dX11_ask_24 : decode cX11_ask 24 = .ok (.iconst (-1), 1) := by decide +kernel
theorem dX11_ask_25 : decode cX11_ask 25 = .ok (.ireturn, 1) := by decide +kernel
theorem dX11_digits_0 : decode cX11_digits 0 = .ok (.iconst 0, 1) := by decide +kernel
theorem dX11_digits_1 : decode cX11_digits 1 = .ok (.istore_n 1, 1) := by decide +kernel
theorem dX11_digits_2 : decode cX11_digits 2 = .ok (.iload_n 0, 1) := by decide +kernel
theorem dX11_digits_3 : decode cX11_digits 3 = .ok (.istore_n 2, 1) := by decide +kernel
theorem dX11_digits_4 : decode cX11_digits 4 = .ok (.iload_n 2, 1) := by decide +kernel
theorem dX11_digits_5 : decode cX11_digits 5 = .ok (.ifCond .le 14, 3) := by decide +kernel
theorem dX11_digits_8 : decode cX11_digits 8 = .ok (.iinc 1 1, 3) := by decide +kernel
theorem dX11_digits_11 : decode cX11_digits 11 = .ok (.iload_n 2, 1) := by decide +kernel
theorem dX11_digits_12 : decode cX11_digits 12 = .ok (.bipush 10, 2) := by decide +kernel
theorem dX11_digits_14 : decode cX11_digits 14 = .ok (.idiv, 1) := by decide +kernel
theorem dX11_digits_15 : decode cX11_digits 15 = .ok (.istore_n 2, 1) := by decide +kernel
theorem dX11_digits_16 : decode cX11_digits 16 = .ok (.goto (-12), 3) := by decide +kernel
theorem dX11_digits_19 : decode cX11_digits 19 = .ok (.iload_n 1, 1) := by decide +kernel
theorem dX11_digits_20 : decode cX11_digits 20 = .ok (.ireturn, 1) := by decide +kernel
theorem dX11_figure_0 : decode cX11_figure 0 = .ok (.iload_n 0, 1) := by decide +kernel
theorem dX11_figure_1 : decode cX11_figure 1 = .ok (.istore_n 2, 1) := by decide +kernel
theorem dX11_figure_2 : decode cX11_figure 2 = .ok (.iconst 0, 1) := by decide +kernel
theorem dX11_figure_3 : decode cX11_figure 3 = .ok (.istore_n 3, 1) := by decide +kernel
theorem dX11_figure_4 : decode cX11_figure 4 = .ok (.iload_n 3, 1) := by decide +kernel
theorem dX11_figure_5 : decode cX11_figure 5 = .ok (.iload_n 1, 1) := by decide +kernel
theorem dX11_figure_6 : decode cX11_figure 6 = .ok (.if_icmp .ge 14, 3) := by decide +kernel
theorem dX11_figure_9 : decode cX11_figure 9 = .ok (.iload_n 2, 1) := by decide +kernel
theorem dX11_figure_10 : decode cX11_figure 10 = .ok (.bipush 10, 2) := by decide +kernel
theorem dX11_figure_12 : decode cX11_figure 12 = .ok (.idiv, 1) := by decide +kernel
theorem dX11_figure_13 : decode cX11_figure 13 = .ok (.istore_n 2, 1) := by decide +kernel
theorem dX11_figure_14 : decode cX11_figure 14 = .ok (.iinc 3 1, 3) := by decide +kernel
theorem dX11_figure_17 : decode cX11_figure 17 = .ok (.goto (-13), 3) := by decide +kernel
theorem dX11_figure_20 : decode cX11_figure 20 = .ok (.iload_n 2, 1) := by decide +kernel
theorem dX11_figure_21 : decode cX11_figure 21 = .ok (.bipush 10, 2) := by decide +kernel
theorem dX11_figure_23 : decode cX11_figure 23 = .ok (.irem, 1) := by decide +kernel
theorem dX11_figure_24 : decode cX11_figure 24 = .ok (.ireturn, 1) := by decide +kernel
theorem dX11_tens_0 : decode cX11_tens 0 = .ok (.iconst 1, 1) := by decide +kernel
theorem dX11_tens_1 : decode cX11_tens 1 = .ok (.istore_n 1, 1) := by decide +kernel
theorem dX11_tens_2 : decode cX11_tens 2 = .ok (.iconst 0, 1) := by decide +kernel
theorem dX11_tens_3 : decode cX11_tens 3 = .ok (.istore_n 2, 1) := by decide +kernel
theorem dX11_tens_4 : decode cX11_tens 4 = .ok (.iload_n 2, 1) := by decide +kernel
theorem dX11_tens_5 : decode cX11_tens 5 = .ok (.iload_n 0, 1) := by decide +kernel
theorem dX11_tens_6 : decode cX11_tens 6 = .ok (.if_icmp .ge 14, 3) := by decide +kernel
theorem dX11_tens_9 : decode cX11_tens 9 = .ok (.iload_n 1, 1) := by decide +kernel
theorem dX11_tens_10 : decode cX11_tens 10 = .ok (.bipush 10, 2) := by decide +kernel
theorem dX11_tens_12 : decode cX11_tens 12 = .ok (.imul, 1) := by decide +kernel
theorem dX11_tens_13 : decode cX11_tens 13 = .ok (.istore_n 1, 1) := by decide +kernel
theorem dX11_tens_14 : decode cX11_tens 14 = .ok (.iinc 2 1, 3) := by decide +kernel
theorem dX11_tens_17 : decode cX11_tens 17 = .ok (.goto (-13), 3) := by decide +kernel
theorem dX11_tens_20 : decode cX11_tens 20 = .ok (.iload_n 1, 1) := by decide +kernel
theorem dX11_tens_21 : decode cX11_tens 21 = .ok (.ireturn, 1) := by decide +kernel
theorem dX11_acts_0 : decode cX11_acts 0 = .ok (.aload_n 0, 1) := by decide +kernel
theorem dX11_acts_1 : decode cX11_acts 1 = .ok (.getfield 214, 3) := by decide +kernel
theorem dX11_acts_4 : decode cX11_acts 4 = .ok (.istore 5, 2) := by decide +kernel
theorem dX11_acts_6 : decode cX11_acts 6 = .ok (.aload_n 0, 1) := by decide +kernel
theorem dX11_acts_7 : decode cX11_acts 7 = .ok (.getfield 9, 3) := by decide +kernel
theorem dX11_acts_10 : decode cX11_acts 10 = .ok (.iconst 5, 1) := by decide +kernel
theorem dX11_acts_11 : decode cX11_acts 11 = .ok (.aload_n 0, 1) := by decide +kernel
theorem dX11_acts_12 : decode cX11_acts 12 = .ok (.getfield 217, 3) := by decide +kernel
theorem dX11_acts_15 : decode cX11_acts 15 = .ok (.imul, 1) := by decide +kernel
theorem dX11_acts_16 : decode cX11_acts 16 = .ok (.iload_n 1, 1) := by decide +kernel
theorem dX11_acts_17 : decode cX11_acts 17 = .ok (.iadd, 1) := by decide +kernel
theorem dX11_acts_18 : decode cX11_acts 18 = .ok (.iaload, 1) := by decide +kernel
theorem dX11_acts_19 : decode cX11_acts 19 = .ok (.istore 6, 2) := by decide +kernel
theorem dX11_acts_21 : decode cX11_acts 21 = .ok (.aload_n 0, 1) := by decide +kernel
theorem dX11_acts_22 : decode cX11_acts 22 = .ok (.getfield 43, 3) := by decide +kernel
theorem dX11_acts_25 : decode cX11_acts 25 = .ok (.iload 5, 2) := by decide +kernel
theorem dX11_acts_27 : decode cX11_acts 27 = .ok (.iload_n 1, 1) := by decide +kernel
theorem dX11_acts_28 : decode cX11_acts 28 = .ok (.iastore, 1) := by decide +kernel
theorem dX11_acts_29 : decode cX11_acts 29 = .ok (.aload_n 0, 1) := by decide +kernel
theorem dX11_acts_30 : decode cX11_acts 30 = .ok (.getfield 46, 3) := by decide +kernel
theorem dX11_acts_33 : decode cX11_acts 33 = .ok (.iload 5, 2) := by decide +kernel
theorem dX11_acts_35 : decode cX11_acts 35 = .ok (.iload_n 2, 1) := by decide +kernel
theorem dX11_acts_36 : decode cX11_acts 36 = .ok (.iastore, 1) := by decide +kernel
theorem dX11_acts_37 : decode cX11_acts 37 = .ok (.aload_n 0, 1) := by decide +kernel
theorem dX11_acts_38 : decode cX11_acts 38 = .ok (.getfield 49, 3) := by decide +kernel
theorem dX11_acts_41 : decode cX11_acts 41 = .ok (.iload 5, 2) := by decide +kernel
theorem dX11_acts_43 : decode cX11_acts 43 = .ok (.iload_n 1, 1) := by decide +kernel
theorem dX11_acts_44 : decode cX11_acts 44 = .ok (.ifCond .ne 8, 3) := by decide +kernel
theorem dX11_acts_47 : decode cX11_acts 47 = .ok (.iload 6, 2) := by decide +kernel
theorem dX11_acts_49 : decode cX11_acts 49 = .ok (.goto 23, 3) := by decide +kernel
theorem dX11_acts_52 : decode cX11_acts 52 = .ok (.iload 6, 2) := by decide +kernel
theorem dX11_acts_54 : decode cX11_acts 54 = .ok (.iload_n 1, 1) := by decide +kernel
theorem dX11_acts_55 : decode cX11_acts 55 = .ok (.iconst 2, 1) := by decide +kernel
theorem dX11_acts_56 : decode cX11_acts 56 = .ok (.if_icmp .ne 11, 3) := by decide +kernel
theorem dX11_acts_59 : decode cX11_acts 59 = .ok (.iload_n 2, 1) := by decide +kernel
theorem dX11_acts_60 : decode cX11_acts 60 = .ok (.ifCond .ne 7, 3) := by decide +kernel
theorem dX11_acts_63 : decode cX11_acts 63 = .ok (.iconst 1, 1) := by decide +kernel
theorem dX11_acts_64 : decode cX11_acts 64 = .ok (.goto 7, 3) := by decide +kernel
theorem dX11_acts_67 : decode cX11_acts 67 = .ok (.iload_n 2, 1) := by decide +kernel
theorem dX11_acts_68 : decode cX11_acts 68 = .ok (.invokestatic 220, 3) := by decide +kernel
theorem dX11_acts_71 : decode cX11_acts 71 = .ok (.imul, 1) := by decide +kernel
theorem dX11_acts_72 : decode cX11_acts 72 = .ok (.iastore, 1) := by decide +kernel
theorem dX11_acts_73 : decode cX11_acts 73 = .ok (.aload_n 0, 1) := by decide +kernel
theorem dX11_acts_74 : decode cX11_acts 74 = .ok (.getfield 52, 3) := by decide +kernel
theorem dX11_acts_77 : decode cX11_acts 77 = .ok (.iload 5, 2) := by decide +kernel
theorem dX11_acts_79 : decode cX11_acts 79 = .ok (.aload_n 0, 1) := by decide +kernel
theorem dX11_acts_80 : decode cX11_acts 80 = .ok (.getfield 223, 3) := by decide +kernel
theorem dX11_acts_83 : decode cX11_acts 83 = .ok (.aload_n 0, 1) := by decide +kernel
theorem dX11_acts_84 : decode cX11_acts 84 = .ok (.getfield 226, 3) := by decide +kernel
theorem dX11_acts_87 : decode cX11_acts 87 = .ok (.invokestatic 220, 3) := by decide +kernel
theorem dX11_acts_90 : decode cX11_acts 90 = .ok (.iadd, 1) := by decide +kernel
theorem dX11_acts_91 : decode cX11_acts 91 = .ok (.iastore, 1) := by decide +kernel
theorem dX11_acts_92 : decode cX11_acts 92 = .ok (.aload_n 0, 1) := by decide +kernel
theorem dX11_acts_93 : decode cX11_acts 93 = .ok (.getfield 55, 3) := by decide +kernel
theorem dX11_acts_96 : decode cX11_acts 96 = .ok (.iload 5, 2) := by decide +kernel
theorem dX11_acts_98 : decode cX11_acts 98 = .ok (.iload_n 3, 1) := by decide +kernel
theorem dX11_acts_99 : decode cX11_acts 99 = .ok (.iastore, 1) := by decide +kernel
theorem dX11_acts_100 : decode cX11_acts 100 = .ok (.aload_n 0, 1) := by decide +kernel
theorem dX11_acts_101 : decode cX11_acts 101 = .ok (.getfield 58, 3) := by decide +kernel
theorem dX11_acts_104 : decode cX11_acts 104 = .ok (.iload 5, 2) := by decide +kernel
theorem dX11_acts_106 : decode cX11_acts 106 = .ok (.iload 4, 2) := by decide +kernel
theorem dX11_acts_108 : decode cX11_acts 108 = .ok (.iastore, 1) := by decide +kernel
theorem dX11_acts_109 : decode cX11_acts 109 = .ok (.aload_n 0, 1) := by decide +kernel
theorem dX11_acts_110 : decode cX11_acts 110 = .ok (.dup, 1) := by decide +kernel
theorem dX11_acts_111 : decode cX11_acts 111 = .ok (.getfield 214, 3) := by decide +kernel
theorem dX11_acts_114 : decode cX11_acts 114 = .ok (.iconst 1, 1) := by decide +kernel
theorem dX11_acts_115 : decode cX11_acts 115 = .ok (.iadd, 1) := by decide +kernel
theorem dX11_acts_116 : decode cX11_acts 116 = .ok (.putfield 214, 3) := by decide +kernel
theorem dX11_acts_119 : decode cX11_acts 119 = .ok (.return_, 1) := by decide +kernel
theorem dX11_holds_0 : decode cX11_holds 0 = .ok (.aload_n 0, 1) := by decide +kernel
theorem dX11_holds_1 : decode cX11_holds 1 = .ok (.getfield 226, 3) := by decide +kernel
theorem dX11_holds_4 : decode cX11_holds 4 = .ok (.istore_n 1, 1) := by decide +kernel
theorem dX11_holds_5 : decode cX11_holds 5 = .ok (.aload_n 0, 1) := by decide +kernel
theorem dX11_holds_6 : decode cX11_holds 6 = .ok (.dup, 1) := by decide +kernel
theorem dX11_holds_7 : decode cX11_holds 7 = .ok (.getfield 223, 3) := by decide +kernel
theorem dX11_holds_10 : decode cX11_holds 10 = .ok (.iload_n 1, 1) := by decide +kernel
theorem dX11_holds_11 : decode cX11_holds 11 = .ok (.invokestatic 220, 3) := by decide +kernel
theorem dX11_holds_14 : decode cX11_holds 14 = .ok (.iadd, 1) := by decide +kernel
theorem dX11_holds_15 : decode cX11_holds 15 = .ok (.putfield 223, 3) := by decide +kernel
theorem dX11_holds_18 : decode cX11_holds 18 = .ok (.aload_n 0, 1) := by decide +kernel
theorem dX11_holds_19 : decode cX11_holds 19 = .ok (.iconst 0, 1) := by decide +kernel
theorem dX11_holds_20 : decode cX11_holds 20 = .ok (.putfield 226, 3) := by decide +kernel
theorem dX11_holds_23 : decode cX11_holds 23 = .ok (.aload_n 0, 1) := by decide +kernel
theorem dX11_holds_24 : decode cX11_holds 24 = .ok (.iconst 2, 1) := by decide +kernel
theorem dX11_holds_25 : decode cX11_holds 25 = .ok (.iload_n 1, 1) := by decide +kernel
theorem dX11_holds_26 : decode cX11_holds 26 = .ok (.iconst 0, 1) := by decide +kernel
theorem dX11_holds_27 : decode cX11_holds 27 = .ok (.iconst 0, 1) := by decide +kernel
theorem dX11_holds_28 : decode cX11_holds 28 = .ok (.invokevirtual 229, 3) := by decide +kernel
theorem dX11_holds_31 : decode cX11_holds 31 = .ok (.return_, 1) := by decide +kernel
theorem dX11_lookAndAdd_0 : decode cX11_lookAndAdd 0 = .ok (.iload_n 1, 1) := by decide +kernel
theorem dX11_lookAndAdd_1 : decode cX11_lookAndAdd 1 = .ok (.iload_n 2, 1) := by decide +kernel
theorem dX11_lookAndAdd_2 : decode cX11_lookAndAdd 2 = .ok (.imul, 1) := by decide +kernel
theorem dX11_lookAndAdd_3 : decode cX11_lookAndAdd 3 = .ok (.iload_n 3, 1) := by decide +kernel
theorem dX11_lookAndAdd_4 : decode cX11_lookAndAdd 4 = .ok (.invokestatic 233, 3) := by decide +kernel
theorem dX11_lookAndAdd_7 : decode cX11_lookAndAdd 7 = .ok (.imul, 1) := by decide +kernel
theorem dX11_lookAndAdd_8 : decode cX11_lookAndAdd 8 = .ok (.istore 6, 2) := by decide +kernel
theorem dX11_lookAndAdd_10 : decode cX11_lookAndAdd 10 = .ok (.iload 4, 2) := by decide +kernel
theorem dX11_lookAndAdd_12 : decode cX11_lookAndAdd 12 = .ok (.ifCond .eq 9, 3) := by decide +kernel
theorem dX11_lookAndAdd_15 : decode cX11_lookAndAdd 15 = .ok (.aload_n 0, 1) := by decide +kernel
theorem dX11_lookAndAdd_16 : decode cX11_lookAndAdd 16 = .ok (.iload 6, 2) := by decide +kernel
theorem dX11_lookAndAdd_18 : decode cX11_lookAndAdd 18 = .ok (.putfield 226, 3) := by decide +kernel
theorem dX11_lookAndAdd_21 : decode cX11_lookAndAdd 21 = .ok (.aload_n 0, 1) := by decide +kernel
theorem dX11_lookAndAdd_22 : decode cX11_lookAndAdd 22 = .ok (.iconst 0, 1) := by decide +kernel
theorem dX11_lookAndAdd_23 : decode cX11_lookAndAdd 23 = .ok (.iload 6, 2) := by decide +kernel
theorem dX11_lookAndAdd_25 : decode cX11_lookAndAdd 25 = .ok (.iload_n 1, 1) := by decide +kernel
theorem dX11_lookAndAdd_26 : decode cX11_lookAndAdd 26 = .ok (.iload_n 2, 1) := by decide +kernel
theorem dX11_lookAndAdd_27 : decode cX11_lookAndAdd 27 = .ok (.if_icmp .ge 7, 3) := by decide +kernel
theorem dX11_lookAndAdd_30 : decode cX11_lookAndAdd 30 = .ok (.iload_n 1, 1) := by decide +kernel
theorem dX11_lookAndAdd_31 : decode cX11_lookAndAdd 31 = .ok (.goto 4, 3) := by decide +kernel
theorem dX11_lookAndAdd_34 : decode cX11_lookAndAdd 34 = .ok (.iload_n 2, 1) := by decide +kernel
theorem dX11_lookAndAdd_35 : decode cX11_lookAndAdd 35 = .ok (.iload_n 3, 1) := by decide +kernel
theorem dX11_lookAndAdd_36 : decode cX11_lookAndAdd 36 = .ok (.invokestatic 233, 3) := by decide +kernel
theorem dX11_lookAndAdd_39 : decode cX11_lookAndAdd 39 = .ok (.imul, 1) := by decide +kernel
theorem dX11_lookAndAdd_40 : decode cX11_lookAndAdd 40 = .ok (.iload 5, 2) := by decide +kernel
theorem dX11_lookAndAdd_42 : decode cX11_lookAndAdd 42 = .ok (.invokestatic 233, 3) := by decide +kernel
theorem dX11_lookAndAdd_45 : decode cX11_lookAndAdd 45 = .ok (.imul, 1) := by decide +kernel
theorem dX11_lookAndAdd_46 : decode cX11_lookAndAdd 46 = .ok (.iconst 0, 1) := by decide +kernel
theorem dX11_lookAndAdd_47 : decode cX11_lookAndAdd 47 = .ok (.invokevirtual 229, 3) := by decide +kernel
theorem dX11_lookAndAdd_50 : decode cX11_lookAndAdd 50 = .ok (.iload 4, 2) := by decide +kernel
theorem dX11_lookAndAdd_52 : decode cX11_lookAndAdd 52 = .ok (.ifCond .ne 26, 3) := by decide +kernel
theorem dX11_lookAndAdd_55 : decode cX11_lookAndAdd 55 = .ok (.aload_n 0, 1) := by decide +kernel
theorem dX11_lookAndAdd_56 : decode cX11_lookAndAdd 56 = .ok (.dup, 1) := by decide +kernel
theorem dX11_lookAndAdd_57 : decode cX11_lookAndAdd 57 = .ok (.getfield 226, 3) := by decide +kernel
theorem dX11_lookAndAdd_60 : decode cX11_lookAndAdd 60 = .ok (.iload 6, 2) := by decide +kernel
theorem dX11_lookAndAdd_62 : decode cX11_lookAndAdd 62 = .ok (.iadd, 1) := by decide +kernel
theorem dX11_lookAndAdd_63 : decode cX11_lookAndAdd 63 = .ok (.putfield 226, 3) := by decide +kernel
theorem dX11_lookAndAdd_66 : decode cX11_lookAndAdd 66 = .ok (.aload_n 0, 1) := by decide +kernel
theorem dX11_lookAndAdd_67 : decode cX11_lookAndAdd 67 = .ok (.iconst 1, 1) := by decide +kernel
theorem dX11_lookAndAdd_68 : decode cX11_lookAndAdd 68 = .ok (.aload_n 0, 1) := by decide +kernel
theorem dX11_lookAndAdd_69 : decode cX11_lookAndAdd 69 = .ok (.getfield 226, 3) := by decide +kernel
theorem dX11_lookAndAdd_72 : decode cX11_lookAndAdd 72 = .ok (.iconst 0, 1) := by decide +kernel
theorem dX11_lookAndAdd_73 : decode cX11_lookAndAdd 73 = .ok (.iload 5, 2) := by decide +kernel
theorem dX11_lookAndAdd_75 : decode cX11_lookAndAdd 75 = .ok (.invokevirtual 229, 3) := by decide +kernel
theorem dX11_lookAndAdd_78 : decode cX11_lookAndAdd 78 = .ok (.iconst 0, 1) := by decide +kernel
theorem dX11_lookAndAdd_79 : decode cX11_lookAndAdd 79 = .ok (.ireturn, 1) := by decide +kernel
theorem dX11_goLeft_0 : decode cX11_goLeft 0 = .ok (.iconst 1, 1) := by decide +kernel
theorem dX11_goLeft_1 : decode cX11_goLeft 1 = .ok (.istore_n 3, 1) := by decide +kernel
theorem dX11_goLeft_2 : decode cX11_goLeft 2 = .ok (.iload_n 1, 1) := by decide +kernel
theorem dX11_goLeft_3 : decode cX11_goLeft 3 = .ok (.invokestatic 220, 3) := by decide +kernel
theorem dX11_goLeft_6 : decode cX11_goLeft 6 = .ok (.iconst 1, 1) := by decide +kernel
theorem dX11_goLeft_7 : decode cX11_goLeft 7 = .ok (.isub, 1) := by decide +kernel
theorem dX11_goLeft_8 : decode cX11_goLeft 8 = .ok (.istore 4, 2) := by decide +kernel
theorem dX11_goLeft_10 : decode cX11_goLeft 10 = .ok (.iload 4, 2) := by decide +kernel
theorem dX11_goLeft_12 : decode cX11_goLeft 12 = .ok (.ifCond .lt 70, 3) := by decide +kernel
theorem dX11_goLeft_15 : decode cX11_goLeft 15 = .ok (.iload_n 2, 1) := by decide +kernel
theorem dX11_goLeft_16 : decode cX11_goLeft 16 = .ok (.invokestatic 220, 3) := by decide +kernel
theorem dX11_goLeft_19 : decode cX11_goLeft 19 = .ok (.iconst 1, 1) := by decide +kernel
theorem dX11_goLeft_20 : decode cX11_goLeft 20 = .ok (.isub, 1) := by decide +kernel
theorem dX11_goLeft_21 : decode cX11_goLeft 21 = .ok (.istore 5, 2) := by decide +kernel
theorem dX11_goLeft_23 : decode cX11_goLeft 23 = .ok (.iload 5, 2) := by decide +kernel
theorem dX11_goLeft_25 : decode cX11_goLeft 25 = .ok (.ifCond .lt 51, 3) := by decide +kernel
theorem dX11_goLeft_28 : decode cX11_goLeft 28 = .ok (.iload_n 1, 1) := by decide +kernel
theorem dX11_goLeft_29 : decode cX11_goLeft 29 = .ok (.iload 4, 2) := by decide +kernel
theorem dX11_goLeft_31 : decode cX11_goLeft 31 = .ok (.invokestatic 236, 3) := by decide +kernel
theorem dX11_goLeft_34 : decode cX11_goLeft 34 = .ok (.ifCond .le 36, 3) := by decide +kernel
theorem dX11_goLeft_37 : decode cX11_goLeft 37 = .ok (.iload_n 2, 1) := by decide +kernel
theorem dX11_goLeft_38 : decode cX11_goLeft 38 = .ok (.iload 5, 2) := by decide +kernel
theorem dX11_goLeft_40 : decode cX11_goLeft 40 = .ok (.invokestatic 236, 3) := by decide +kernel
theorem dX11_goLeft_43 : decode cX11_goLeft 43 = .ok (.ifCond .le 27, 3) := by decide +kernel
theorem dX11_goLeft_46 : decode cX11_goLeft 46 = .ok (.aload_n 0, 1) := by decide +kernel
theorem dX11_goLeft_47 : decode cX11_goLeft 47 = .ok (.iload_n 1, 1) := by decide +kernel
theorem dX11_goLeft_48 : decode cX11_goLeft 48 = .ok (.iload 4, 2) := by decide +kernel
theorem dX11_goLeft_50 : decode cX11_goLeft 50 = .ok (.invokestatic 236, 3) := by decide +kernel
theorem dX11_goLeft_53 : decode cX11_goLeft 53 = .ok (.iload_n 2, 1) := by decide +kernel
theorem dX11_goLeft_54 : decode cX11_goLeft 54 = .ok (.iload 5, 2) := by decide +kernel
theorem dX11_goLeft_56 : decode cX11_goLeft 56 = .ok (.invokestatic 236, 3) := by decide +kernel
theorem dX11_goLeft_59 : decode cX11_goLeft 59 = .ok (.iload 4, 2) := by decide +kernel
theorem dX11_goLeft_61 : decode cX11_goLeft 61 = .ok (.iload 5, 2) := by decide +kernel
theorem dX11_goLeft_63 : decode cX11_goLeft 63 = .ok (.iadd, 1) := by decide +kernel
theorem dX11_goLeft_64 : decode cX11_goLeft 64 = .ok (.iload_n 3, 1) := by decide +kernel
theorem dX11_goLeft_65 : decode cX11_goLeft 65 = .ok (.iconst 0, 1) := by decide +kernel
theorem dX11_goLeft_66 : decode cX11_goLeft 66 = .ok (.invokevirtual 239, 3) := by decide +kernel
theorem dX11_goLeft_69 : decode cX11_goLeft 69 = .ok (.istore_n 3, 1) := by decide +kernel
theorem dX11_goLeft_70 : decode cX11_goLeft 70 = .ok (.iinc 5 (-1), 3) := by decide +kernel
theorem dX11_goLeft_73 : decode cX11_goLeft 73 = .ok (.goto (-50), 3) := by decide +kernel
theorem dX11_goLeft_76 : decode cX11_goLeft 76 = .ok (.iinc 4 (-1), 3) := by decide +kernel
theorem dX11_goLeft_79 : decode cX11_goLeft 79 = .ok (.goto (-69), 3) := by decide +kernel
theorem dX11_goLeft_82 : decode cX11_goLeft 82 = .ok (.return_, 1) := by decide +kernel
theorem dX11_goRight_0 : decode cX11_goRight 0 = .ok (.iconst 0, 1) := by decide +kernel
theorem dX11_goRight_1 : decode cX11_goRight 1 = .ok (.istore_n 3, 1) := by decide +kernel
theorem dX11_goRight_2 : decode cX11_goRight 2 = .ok (.iconst 0, 1) := by decide +kernel
theorem dX11_goRight_3 : decode cX11_goRight 3 = .ok (.istore 4, 2) := by decide +kernel
theorem dX11_goRight_5 : decode cX11_goRight 5 = .ok (.iload 4, 2) := by decide +kernel
theorem dX11_goRight_7 : decode cX11_goRight 7 = .ok (.iload_n 2, 1) := by decide +kernel
theorem dX11_goRight_8 : decode cX11_goRight 8 = .ok (.invokestatic 220, 3) := by decide +kernel
theorem dX11_goRight_11 : decode cX11_goRight 11 = .ok (.if_icmp .ge 52, 3) := by decide +kernel
theorem dX11_goRight_14 : decode cX11_goRight 14 = .ok (.iload_n 2, 1) := by decide +kernel
theorem dX11_goRight_15 : decode cX11_goRight 15 = .ok (.iload 4, 2) := by decide +kernel
theorem dX11_goRight_17 : decode cX11_goRight 17 = .ok (.invokestatic 236, 3) := by decide +kernel
theorem dX11_goRight_20 : decode cX11_goRight 20 = .ok (.ifCond .le 37, 3) := by decide +kernel
theorem dX11_goRight_23 : decode cX11_goRight 23 = .ok (.aload_n 0, 1) := by decide +kernel
theorem dX11_goRight_24 : decode cX11_goRight 24 = .ok (.iload_n 1, 1) := by decide +kernel
theorem dX11_goRight_25 : decode cX11_goRight 25 = .ok (.iload_n 2, 1) := by decide +kernel
theorem dX11_goRight_26 : decode cX11_goRight 26 = .ok (.iload 4, 2) := by decide +kernel
theorem dX11_goRight_28 : decode cX11_goRight 28 = .ok (.invokestatic 236, 3) := by decide +kernel
theorem dX11_goRight_31 : decode cX11_goRight 31 = .ok (.iload 4, 2) := by decide +kernel
theorem dX11_goRight_33 : decode cX11_goRight 33 = .ok (.invokestatic 233, 3) := by decide +kernel
theorem dX11_goRight_36 : decode cX11_goRight 36 = .ok (.imul, 1) := by decide +kernel
theorem dX11_goRight_37 : decode cX11_goRight 37 = .ok (.invokevirtual 243, 3) := by decide +kernel
theorem dX11_goRight_40 : decode cX11_goRight 40 = .ok (.aload_n 0, 1) := by decide +kernel
theorem dX11_goRight_41 : decode cX11_goRight 41 = .ok (.getfield 61, 3) := by decide +kernel
theorem dX11_goRight_44 : decode cX11_goRight 44 = .ok (.iload_n 3, 1) := by decide +kernel
theorem dX11_goRight_45 : decode cX11_goRight 45 = .ok (.aload_n 0, 1) := by decide +kernel
theorem dX11_goRight_46 : decode cX11_goRight 46 = .ok (.getfield 226, 3) := by decide +kernel
theorem dX11_goRight_49 : decode cX11_goRight 49 = .ok (.iastore, 1) := by decide +kernel
theorem dX11_goRight_50 : decode cX11_goRight 50 = .ok (.iinc 3 1, 3) := by decide +kernel
theorem dX11_goRight_53 : decode cX11_goRight 53 = .ok (.aload_n 0, 1) := by decide +kernel
theorem dX11_goRight_54 : decode cX11_goRight 54 = .ok (.invokevirtual 247, 3) := by decide +kernel
theorem dX11_goRight_57 : decode cX11_goRight 57 = .ok (.iinc 4 1, 3) := by decide +kernel
theorem dX11_goRight_60 : decode cX11_goRight 60 = .ok (.goto (-55), 3) := by decide +kernel
theorem dX11_goRight_63 : decode cX11_goRight 63 = .ok (.iload_n 3, 1) := by decide +kernel
theorem dX11_goRight_64 : decode cX11_goRight 64 = .ok (.iconst 2, 1) := by decide +kernel
theorem dX11_goRight_65 : decode cX11_goRight 65 = .ok (.if_icmp .ge 4, 3) := by decide +kernel
theorem dX11_goRight_68 : decode cX11_goRight 68 = .ok (.return_, 1) := by decide +kernel
theorem dX11_goRight_69 : decode cX11_goRight 69 = .ok (.aload_n 0, 1) := by decide +kernel
theorem dX11_goRight_70 : decode cX11_goRight 70 = .ok (.aload_n 0, 1) := by decide +kernel
theorem dX11_goRight_71 : decode cX11_goRight 71 = .ok (.getfield 61, 3) := by decide +kernel
theorem dX11_goRight_74 : decode cX11_goRight 74 = .ok (.iconst 0, 1) := by decide +kernel
theorem dX11_goRight_75 : decode cX11_goRight 75 = .ok (.iaload, 1) := by decide +kernel
theorem dX11_goRight_76 : decode cX11_goRight 76 = .ok (.putfield 226, 3) := by decide +kernel
theorem dX11_goRight_79 : decode cX11_goRight 79 = .ok (.aload_n 0, 1) := by decide +kernel
theorem dX11_goRight_80 : decode cX11_goRight 80 = .ok (.dup, 1) := by decide +kernel
theorem dX11_goRight_81 : decode cX11_goRight 81 = .ok (.getfield 223, 3) := by decide +kernel
theorem dX11_goRight_84 : decode cX11_goRight 84 = .ok (.aload_n 0, 1) := by decide +kernel
theorem dX11_goRight_85 : decode cX11_goRight 85 = .ok (.getfield 226, 3) := by decide +kernel
theorem dX11_goRight_88 : decode cX11_goRight 88 = .ok (.invokestatic 220, 3) := by decide +kernel
theorem dX11_goRight_91 : decode cX11_goRight 91 = .ok (.isub, 1) := by decide +kernel
theorem dX11_goRight_92 : decode cX11_goRight 92 = .ok (.putfield 223, 3) := by decide +kernel
theorem dX11_goRight_95 : decode cX11_goRight 95 = .ok (.iconst 1, 1) := by decide +kernel
theorem dX11_goRight_96 : decode cX11_goRight 96 = .ok (.istore 4, 2) := by decide +kernel
theorem dX11_goRight_98 : decode cX11_goRight 98 = .ok (.iload 4, 2) := by decide +kernel
theorem dX11_goRight_100 : decode cX11_goRight 100 = .ok (.iload_n 3, 1) := by decide +kernel
theorem dX11_goRight_101 : decode cX11_goRight 101 = .ok (.if_icmp .ge 55, 3) := by decide +kernel
theorem dX11_goRight_104 : decode cX11_goRight 104 = .ok (.aload_n 0, 1) := by decide +kernel
theorem dX11_goRight_105 : decode cX11_goRight 105 = .ok (.dup, 1) := by decide +kernel
theorem dX11_goRight_106 : decode cX11_goRight 106 = .ok (.getfield 226, 3) := by decide +kernel
theorem dX11_goRight_109 : decode cX11_goRight 109 = .ok (.aload_n 0, 1) := by decide +kernel
theorem dX11_goRight_110 : decode cX11_goRight 110 = .ok (.getfield 61, 3) := by decide +kernel
theorem dX11_goRight_113 : decode cX11_goRight 113 = .ok (.iload 4, 2) := by decide +kernel
theorem dX11_goRight_115 : decode cX11_goRight 115 = .ok (.iaload, 1) := by decide +kernel
theorem dX11_goRight_116 : decode cX11_goRight 116 = .ok (.iadd, 1) := by decide +kernel
theorem dX11_goRight_117 : decode cX11_goRight 117 = .ok (.putfield 226, 3) := by decide +kernel
theorem dX11_goRight_120 : decode cX11_goRight 120 = .ok (.aload_n 0, 1) := by decide +kernel
theorem dX11_goRight_121 : decode cX11_goRight 121 = .ok (.dup, 1) := by decide +kernel
theorem dX11_goRight_122 : decode cX11_goRight 122 = .ok (.getfield 223, 3) := by decide +kernel
theorem dX11_goRight_125 : decode cX11_goRight 125 = .ok (.aload_n 0, 1) := by decide +kernel
theorem dX11_goRight_126 : decode cX11_goRight 126 = .ok (.getfield 61, 3) := by decide +kernel
theorem dX11_goRight_129 : decode cX11_goRight 129 = .ok (.iload 4, 2) := by decide +kernel
theorem dX11_goRight_131 : decode cX11_goRight 131 = .ok (.iaload, 1) := by decide +kernel
theorem dX11_goRight_132 : decode cX11_goRight 132 = .ok (.invokestatic 220, 3) := by decide +kernel
theorem dX11_goRight_135 : decode cX11_goRight 135 = .ok (.isub, 1) := by decide +kernel
theorem dX11_goRight_136 : decode cX11_goRight 136 = .ok (.putfield 223, 3) := by decide +kernel
theorem dX11_goRight_139 : decode cX11_goRight 139 = .ok (.aload_n 0, 1) := by decide +kernel
theorem dX11_goRight_140 : decode cX11_goRight 140 = .ok (.iconst 1, 1) := by decide +kernel
theorem dX11_goRight_141 : decode cX11_goRight 141 = .ok (.aload_n 0, 1) := by decide +kernel
theorem dX11_goRight_142 : decode cX11_goRight 142 = .ok (.getfield 226, 3) := by decide +kernel
theorem dX11_goRight_145 : decode cX11_goRight 145 = .ok (.iconst 0, 1) := by decide +kernel
theorem dX11_goRight_146 : decode cX11_goRight 146 = .ok (.iconst 0, 1) := by decide +kernel
theorem dX11_goRight_147 : decode cX11_goRight 147 = .ok (.invokevirtual 229, 3) := by decide +kernel
theorem dX11_goRight_150 : decode cX11_goRight 150 = .ok (.iinc 4 1, 3) := by decide +kernel
theorem dX11_goRight_153 : decode cX11_goRight 153 = .ok (.goto (-55), 3) := by decide +kernel
theorem dX11_goRight_156 : decode cX11_goRight 156 = .ok (.return_, 1) := by decide +kernel
theorem dX11_goCrossed_0 : decode cX11_goCrossed 0 = .ok (.iconst 1, 1) := by decide +kernel
theorem dX11_goCrossed_1 : decode cX11_goCrossed 1 = .ok (.istore_n 3, 1) := by decide +kernel
theorem dX11_goCrossed_2 : decode cX11_goCrossed 2 = .ok (.iconst 0, 1) := by decide +kernel
theorem dX11_goCrossed_3 : decode cX11_goCrossed 3 = .ok (.istore 4, 2) := by decide +kernel
theorem dX11_goCrossed_5 : decode cX11_goCrossed 5 = .ok (.iload 4, 2) := by decide +kernel
theorem dX11_goCrossed_7 : decode cX11_goCrossed 7 = .ok (.iload_n 1, 1) := by decide +kernel
theorem dX11_goCrossed_8 : decode cX11_goCrossed 8 = .ok (.invokestatic 220, 3) := by decide +kernel
theorem dX11_goCrossed_11 : decode cX11_goCrossed 11 = .ok (.iload_n 2, 1) := by decide +kernel
theorem dX11_goCrossed_12 : decode cX11_goCrossed 12 = .ok (.invokestatic 220, 3) := by decide +kernel
theorem dX11_goCrossed_15 : decode cX11_goCrossed 15 = .ok (.iadd, 1) := by decide +kernel
theorem dX11_goCrossed_16 : decode cX11_goCrossed 16 = .ok (.iconst 2, 1) := by decide +kernel
theorem dX11_goCrossed_17 : decode cX11_goCrossed 17 = .ok (.isub, 1) := by decide +kernel
theorem dX11_goCrossed_18 : decode cX11_goCrossed 18 = .ok (.if_icmp .gt 199, 3) := by decide +kernel
theorem dX11_goCrossed_21 : decode cX11_goCrossed 21 = .ok (.iconst 0, 1) := by decide +kernel
theorem dX11_goCrossed_22 : decode cX11_goCrossed 22 = .ok (.istore 5, 2) := by decide +kernel
theorem dX11_goCrossed_24 : decode cX11_goCrossed 24 = .ok (.iload 5, 2) := by decide +kernel
theorem dX11_goCrossed_26 : decode cX11_goCrossed 26 = .ok (.iload 4, 2) := by decide +kernel
theorem dX11_goCrossed_28 : decode cX11_goCrossed 28 = .ok (.if_icmp .gt 144, 3) := by decide +kernel
theorem dX11_goCrossed_31 : decode cX11_goCrossed 31 = .ok (.iload_n 1, 1) := by decide +kernel
theorem dX11_goCrossed_32 : decode cX11_goCrossed 32 = .ok (.iload 5, 2) := by decide +kernel
theorem dX11_goCrossed_34 : decode cX11_goCrossed 34 = .ok (.invokestatic 236, 3) := by decide +kernel
theorem dX11_goCrossed_37 : decode cX11_goCrossed 37 = .ok (.ifCond .eq 129, 3) := by decide +kernel
theorem dX11_goCrossed_40 : decode cX11_goCrossed 40 = .ok (.iload_n 2, 1) := by decide +kernel
theorem dX11_goCrossed_41 : decode cX11_goCrossed 41 = .ok (.iload 4, 2) := by decide +kernel
theorem dX11_goCrossed_43 : decode cX11_goCrossed 43 = .ok (.iload 5, 2) := by decide +kernel
theorem dX11_goCrossed_45 : decode cX11_goCrossed 45 = .ok (.isub, 1) := by decide +kernel
theorem dX11_goCrossed_46 : decode cX11_goCrossed 46 = .ok (.invokestatic 236, 3) := by decide +kernel
theorem dX11_goCrossed_49 : decode cX11_goCrossed 49 = .ok (.ifCond .ne 6, 3) := by decide +kernel
theorem dX11_goCrossed_52 : decode cX11_goCrossed 52 = .ok (.goto 114, 3) := by decide +kernel
theorem dX11_goCrossed_55 : decode cX11_goCrossed 55 = .ok (.iload_n 1, 1) := by decide +kernel
theorem dX11_goCrossed_56 : decode cX11_goCrossed 56 = .ok (.iload 5, 2) := by decide +kernel
theorem dX11_goCrossed_58 : decode cX11_goCrossed 58 = .ok (.invokestatic 236, 3) := by decide +kernel
theorem dX11_goCrossed_61 : decode cX11_goCrossed 61 = .ok (.iload_n 2, 1) := by decide +kernel
theorem dX11_goCrossed_62 : decode cX11_goCrossed 62 = .ok (.iload 4, 2) := by decide +kernel
theorem dX11_goCrossed_64 : decode cX11_goCrossed 64 = .ok (.iload 5, 2) := by decide +kernel
theorem dX11_goCrossed_66 : decode cX11_goCrossed 66 = .ok (.isub, 1) := by decide +kernel
theorem dX11_goCrossed_67 : decode cX11_goCrossed 67 = .ok (.invokestatic 236, 3) := by decide +kernel
theorem dX11_goCrossed_70 : decode cX11_goCrossed 70 = .ok (.imul, 1) := by decide +kernel
theorem dX11_goCrossed_71 : decode cX11_goCrossed 71 = .ok (.istore 6, 2) := by decide +kernel
theorem dX11_goCrossed_73 : decode cX11_goCrossed 73 = .ok (.iload_n 1, 1) := by decide +kernel
theorem dX11_goCrossed_74 : decode cX11_goCrossed 74 = .ok (.iload 5, 2) := by decide +kernel
theorem dX11_goCrossed_76 : decode cX11_goCrossed 76 = .ok (.invokestatic 236, 3) := by decide +kernel
theorem dX11_goCrossed_79 : decode cX11_goCrossed 79 = .ok (.iload_n 2, 1) := by decide +kernel
theorem dX11_goCrossed_80 : decode cX11_goCrossed 80 = .ok (.iload 4, 2) := by decide +kernel
theorem dX11_goCrossed_82 : decode cX11_goCrossed 82 = .ok (.iload 5, 2) := by decide +kernel
theorem dX11_goCrossed_84 : decode cX11_goCrossed 84 = .ok (.isub, 1) := by decide +kernel
theorem dX11_goCrossed_85 : decode cX11_goCrossed 85 = .ok (.invokestatic 236, 3) := by decide +kernel
theorem dX11_goCrossed_88 : decode cX11_goCrossed 88 = .ok (.if_icmp .ge 12, 3) := by decide +kernel
theorem dX11_goCrossed_91 : decode cX11_goCrossed 91 = .ok (.iload_n 1, 1) := by decide +kernel
theorem dX11_goCrossed_92 : decode cX11_goCrossed 92 = .ok (.iload 5, 2) := by decide +kernel
theorem dX11_goCrossed_94 : decode cX11_goCrossed 94 = .ok (.invokestatic 236, 3) := by decide +kernel
theorem dX11_goCrossed_97 : decode cX11_goCrossed 97 = .ok (.goto 12, 3) := by decide +kernel
theorem dX11_goCrossed_100 : decode cX11_goCrossed 100 = .ok (.iload_n 2, 1) := by decide +kernel
theorem dX11_goCrossed_101 : decode cX11_goCrossed 101 = .ok (.iload 4, 2) := by decide +kernel
theorem dX11_goCrossed_103 : decode cX11_goCrossed 103 = .ok (.iload 5, 2) := by decide +kernel
theorem dX11_goCrossed_105 : decode cX11_goCrossed 105 = .ok (.isub, 1) := by decide +kernel
theorem dX11_goCrossed_106 : decode cX11_goCrossed 106 = .ok (.invokestatic 236, 3) := by decide +kernel
theorem dX11_goCrossed_109 : decode cX11_goCrossed 109 = .ok (.istore 7, 2) := by decide +kernel
theorem dX11_goCrossed_111 : decode cX11_goCrossed 111 = .ok (.iload_n 3, 1) := by decide +kernel
theorem dX11_goCrossed_112 : decode cX11_goCrossed 112 = .ok (.ifCond .eq 9, 3) := by decide +kernel
theorem dX11_goCrossed_115 : decode cX11_goCrossed 115 = .ok (.aload_n 0, 1) := by decide +kernel
theorem dX11_goCrossed_116 : decode cX11_goCrossed 116 = .ok (.iload 6, 2) := by decide +kernel
theorem dX11_goCrossed_118 : decode cX11_goCrossed 118 = .ok (.putfield 226, 3) := by decide +kernel
theorem dX11_goCrossed_121 : decode cX11_goCrossed 121 = .ok (.aload_n 0, 1) := by decide +kernel
theorem dX11_goCrossed_122 : decode cX11_goCrossed 122 = .ok (.iconst 0, 1) := by decide +kernel
theorem dX11_goCrossed_123 : decode cX11_goCrossed 123 = .ok (.iload 6, 2) := by decide +kernel
theorem dX11_goCrossed_125 : decode cX11_goCrossed 125 = .ok (.iload 7, 2) := by decide +kernel
theorem dX11_goCrossed_127 : decode cX11_goCrossed 127 = .ok (.iload 4, 2) := by decide +kernel
theorem dX11_goCrossed_129 : decode cX11_goCrossed 129 = .ok (.invokestatic 233, 3) := by decide +kernel
theorem dX11_goCrossed_132 : decode cX11_goCrossed 132 = .ok (.imul, 1) := by decide +kernel
theorem dX11_goCrossed_133 : decode cX11_goCrossed 133 = .ok (.iconst 0, 1) := by decide +kernel
theorem dX11_goCrossed_134 : decode cX11_goCrossed 134 = .ok (.invokevirtual 229, 3) := by decide +kernel
theorem dX11_goCrossed_137 : decode cX11_goCrossed 137 = .ok (.iload_n 3, 1) := by decide +kernel
theorem dX11_goCrossed_138 : decode cX11_goCrossed 138 = .ok (.ifCond .ne 26, 3) := by decide +kernel
theorem dX11_goCrossed_141 : decode cX11_goCrossed 141 = .ok (.aload_n 0, 1) := by decide +kernel
theorem dX11_goCrossed_142 : decode cX11_goCrossed 142 = .ok (.dup, 1) := by decide +kernel
theorem dX11_goCrossed_143 : decode cX11_goCrossed 143 = .ok (.getfield 226, 3) := by decide +kernel
theorem dX11_goCrossed_146 : decode cX11_goCrossed 146 = .ok (.iload 6, 2) := by decide +kernel
theorem dX11_goCrossed_148 : decode cX11_goCrossed 148 = .ok (.iadd, 1) := by decide +kernel
theorem dX11_goCrossed_149 : decode cX11_goCrossed 149 = .ok (.putfield 226, 3) := by decide +kernel
theorem dX11_goCrossed_152 : decode cX11_goCrossed 152 = .ok (.aload_n 0, 1) := by decide +kernel
theorem dX11_goCrossed_153 : decode cX11_goCrossed 153 = .ok (.iconst 1, 1) := by decide +kernel
theorem dX11_goCrossed_154 : decode cX11_goCrossed 154 = .ok (.aload_n 0, 1) := by decide +kernel
theorem dX11_goCrossed_155 : decode cX11_goCrossed 155 = .ok (.getfield 226, 3) := by decide +kernel
theorem dX11_goCrossed_158 : decode cX11_goCrossed 158 = .ok (.iconst 0, 1) := by decide +kernel
theorem dX11_goCrossed_159 : decode cX11_goCrossed 159 = .ok (.iload 4, 2) := by decide +kernel
theorem dX11_goCrossed_161 : decode cX11_goCrossed 161 = .ok (.invokevirtual 229, 3) := by decide +kernel
theorem dX11_goCrossed_164 : decode cX11_goCrossed 164 = .ok (.iconst 0, 1) := by decide +kernel
theorem dX11_goCrossed_165 : decode cX11_goCrossed 165 = .ok (.istore_n 3, 1) := by decide +kernel
theorem dX11_goCrossed_166 : decode cX11_goCrossed 166 = .ok (.iinc 5 1, 3) := by decide +kernel
theorem dX11_goCrossed_169 : decode cX11_goCrossed 169 = .ok (.goto (-145), 3) := by decide +kernel
theorem dX11_goCrossed_172 : decode cX11_goCrossed 172 = .ok (.aload_n 0, 1) := by decide +kernel
theorem dX11_goCrossed_173 : decode cX11_goCrossed 173 = .ok (.getfield 226, 3) := by decide +kernel
theorem dX11_goCrossed_176 : decode cX11_goCrossed 176 = .ok (.bipush 10, 2) := by decide +kernel
theorem dX11_goCrossed_178 : decode cX11_goCrossed 178 = .ok (.irem, 1) := by decide +kernel
theorem dX11_goCrossed_179 : decode cX11_goCrossed 179 = .ok (.istore 5, 2) := by decide +kernel
theorem dX11_goCrossed_181 : decode cX11_goCrossed 181 = .ok (.aload_n 0, 1) := by decide +kernel
theorem dX11_goCrossed_182 : decode cX11_goCrossed 182 = .ok (.dup, 1) := by decide +kernel
theorem dX11_goCrossed_183 : decode cX11_goCrossed 183 = .ok (.getfield 223, 3) := by decide +kernel
theorem dX11_goCrossed_186 : decode cX11_goCrossed 186 = .ok (.iconst 1, 1) := by decide +kernel
theorem dX11_goCrossed_187 : decode cX11_goCrossed 187 = .ok (.iadd, 1) := by decide +kernel
theorem dX11_goCrossed_188 : decode cX11_goCrossed 188 = .ok (.putfield 223, 3) := by decide +kernel
theorem dX11_goCrossed_191 : decode cX11_goCrossed 191 = .ok (.aload_n 0, 1) := by decide +kernel
theorem dX11_goCrossed_192 : decode cX11_goCrossed 192 = .ok (.dup, 1) := by decide +kernel
theorem dX11_goCrossed_193 : decode cX11_goCrossed 193 = .ok (.getfield 226, 3) := by decide +kernel
theorem dX11_goCrossed_196 : decode cX11_goCrossed 196 = .ok (.bipush 10, 2) := by decide +kernel
theorem dX11_goCrossed_198 : decode cX11_goCrossed 198 = .ok (.idiv, 1) := by decide +kernel
theorem dX11_goCrossed_199 : decode cX11_goCrossed 199 = .ok (.putfield 226, 3) := by decide +kernel
theorem dX11_goCrossed_202 : decode cX11_goCrossed 202 = .ok (.aload_n 0, 1) := by decide +kernel
theorem dX11_goCrossed_203 : decode cX11_goCrossed 203 = .ok (.iconst 2, 1) := by decide +kernel
theorem dX11_goCrossed_204 : decode cX11_goCrossed 204 = .ok (.iload 5, 2) := by decide +kernel
theorem dX11_goCrossed_206 : decode cX11_goCrossed 206 = .ok (.iconst 0, 1) := by decide +kernel
theorem dX11_goCrossed_207 : decode cX11_goCrossed 207 = .ok (.iconst 0, 1) := by decide +kernel
theorem dX11_goCrossed_208 : decode cX11_goCrossed 208 = .ok (.invokevirtual 229, 3) := by decide +kernel
theorem dX11_goCrossed_211 : decode cX11_goCrossed 211 = .ok (.iinc 4 1, 3) := by decide +kernel
theorem dX11_goCrossed_214 : decode cX11_goCrossed 214 = .ok (.goto (-209), 3) := by decide +kernel
theorem dX11_goCrossed_217 : decode cX11_goCrossed 217 = .ok (.return_, 1) := by decide +kernel
theorem dX11_goSquared_0 : decode cX11_goSquared 0 = .ok (.iload_n 1, 1) := by decide +kernel
theorem dX11_goSquared_1 : decode cX11_goSquared 1 = .ok (.iload_n 2, 1) := by decide +kernel
theorem dX11_goSquared_2 : decode cX11_goSquared 2 = .ok (.iadd, 1) := by decide +kernel
theorem dX11_goSquared_3 : decode cX11_goSquared 3 = .ok (.iconst 2, 1) := by decide +kernel
theorem dX11_goSquared_4 : decode cX11_goSquared 4 = .ok (.irem, 1) := by decide +kernel
theorem dX11_goSquared_5 : decode cX11_goSquared 5 = .ok (.iconst 1, 1) := by decide +kernel
theorem dX11_goSquared_6 : decode cX11_goSquared 6 = .ok (.if_icmp .ne 5, 3) := by decide +kernel
theorem dX11_goSquared_9 : decode cX11_goSquared 9 = .ok (.iconst 0, 1) := by decide +kernel
theorem dX11_goSquared_10 : decode cX11_goSquared 10 = .ok (.ireturn, 1) := by decide +kernel
theorem dX11_goSquared_11 : decode cX11_goSquared 11 = .ok (.iload_n 1, 1) := by decide +kernel
theorem dX11_goSquared_12 : decode cX11_goSquared 12 = .ok (.iload_n 2, 1) := by decide +kernel
theorem dX11_goSquared_13 : decode cX11_goSquared 13 = .ok (.iadd, 1) := by decide +kernel
theorem dX11_goSquared_14 : decode cX11_goSquared 14 = .ok (.iconst 2, 1) := by decide +kernel
theorem dX11_goSquared_15 : decode cX11_goSquared 15 = .ok (.idiv, 1) := by decide +kernel
theorem dX11_goSquared_16 : decode cX11_goSquared 16 = .ok (.istore_n 3, 1) := by decide +kernel
theorem dX11_goSquared_17 : decode cX11_goSquared 17 = .ok (.iload_n 1, 1) := by decide +kernel
theorem dX11_goSquared_18 : decode cX11_goSquared 18 = .ok (.iload_n 2, 1) := by decide +kernel
theorem dX11_goSquared_19 : decode cX11_goSquared 19 = .ok (.isub, 1) := by decide +kernel
theorem dX11_goSquared_20 : decode cX11_goSquared 20 = .ok (.invokestatic 250, 3) := by decide +kernel
theorem dX11_goSquared_23 : decode cX11_goSquared 23 = .ok (.iconst 2, 1) := by decide +kernel
theorem dX11_goSquared_24 : decode cX11_goSquared 24 = .ok (.idiv, 1) := by decide +kernel
theorem dX11_goSquared_25 : decode cX11_goSquared 25 = .ok (.istore 4, 2) := by decide +kernel
theorem dX11_goSquared_27 : decode cX11_goSquared 27 = .ok (.aload_n 0, 1) := by decide +kernel
theorem dX11_goSquared_28 : decode cX11_goSquared 28 = .ok (.iload_n 3, 1) := by decide +kernel
theorem dX11_goSquared_29 : decode cX11_goSquared 29 = .ok (.iload_n 3, 1) := by decide +kernel
theorem dX11_goSquared_30 : decode cX11_goSquared 30 = .ok (.invokevirtual 243, 3) := by decide +kernel
theorem dX11_goSquared_33 : decode cX11_goSquared 33 = .ok (.aload_n 0, 1) := by decide +kernel
theorem dX11_goSquared_34 : decode cX11_goSquared 34 = .ok (.invokevirtual 247, 3) := by decide +kernel
theorem dX11_goSquared_37 : decode cX11_goSquared 37 = .ok (.aload_n 0, 1) := by decide +kernel
theorem dX11_goSquared_38 : decode cX11_goSquared 38 = .ok (.iload 4, 2) := by decide +kernel
theorem dX11_goSquared_40 : decode cX11_goSquared 40 = .ok (.iload 4, 2) := by decide +kernel
theorem dX11_goSquared_42 : decode cX11_goSquared 42 = .ok (.invokevirtual 243, 3) := by decide +kernel
theorem dX11_goSquared_45 : decode cX11_goSquared 45 = .ok (.aload_n 0, 1) := by decide +kernel
theorem dX11_goSquared_46 : decode cX11_goSquared 46 = .ok (.iconst 0, 1) := by decide +kernel
theorem dX11_goSquared_47 : decode cX11_goSquared 47 = .ok (.putfield 223, 3) := by decide +kernel
theorem dX11_goSquared_50 : decode cX11_goSquared 50 = .ok (.aload_n 0, 1) := by decide +kernel
theorem dX11_goSquared_51 : decode cX11_goSquared 51 = .ok (.iload_n 1, 1) := by decide +kernel
theorem dX11_goSquared_52 : decode cX11_goSquared 52 = .ok (.iload_n 2, 1) := by decide +kernel
theorem dX11_goSquared_53 : decode cX11_goSquared 53 = .ok (.imul, 1) := by decide +kernel
theorem dX11_goSquared_54 : decode cX11_goSquared 54 = .ok (.putfield 226, 3) := by decide +kernel
theorem dX11_goSquared_57 : decode cX11_goSquared 57 = .ok (.aload_n 0, 1) := by decide +kernel
theorem dX11_goSquared_58 : decode cX11_goSquared 58 = .ok (.iconst 1, 1) := by decide +kernel
theorem dX11_goSquared_59 : decode cX11_goSquared 59 = .ok (.aload_n 0, 1) := by decide +kernel
theorem dX11_goSquared_60 : decode cX11_goSquared 60 = .ok (.getfield 226, 3) := by decide +kernel
theorem dX11_goSquared_63 : decode cX11_goSquared 63 = .ok (.iconst 0, 1) := by decide +kernel
theorem dX11_goSquared_64 : decode cX11_goSquared 64 = .ok (.iconst 0, 1) := by decide +kernel
theorem dX11_goSquared_65 : decode cX11_goSquared 65 = .ok (.invokevirtual 229, 3) := by decide +kernel
theorem dX11_goSquared_68 : decode cX11_goSquared 68 = .ok (.iconst 1, 1) := by decide +kernel
theorem dX11_goSquared_69 : decode cX11_goSquared 69 = .ok (.ireturn, 1) := by decide +kernel
theorem dX11_goSplit_0 : decode cX11_goSplit 0 = .ok (.aload_n 0, 1) := by decide +kernel
theorem dX11_goSplit_1 : decode cX11_goSplit 1 = .ok (.getfield 253, 3) := by decide +kernel
theorem dX11_goSplit_4 : decode cX11_goSplit 4 = .ok (.istore_n 3, 1) := by decide +kernel
theorem dX11_goSplit_5 : decode cX11_goSplit 5 = .ok (.iload_n 3, 1) := by decide +kernel
theorem dX11_goSplit_6 : decode cX11_goSplit 6 = .ok (.iconst 2, 1) := by decide +kernel
theorem dX11_goSplit_7 : decode cX11_goSplit 7 = .ok (.if_icmp .lt 44, 3) := by decide +kernel
theorem dX11_goSplit_10 : decode cX11_goSplit 10 = .ok (.iload_n 2, 1) := by decide +kernel
theorem dX11_goSplit_11 : decode cX11_goSplit 11 = .ok (.iload_n 3, 1) := by decide +kernel
theorem dX11_goSplit_12 : decode cX11_goSplit 12 = .ok (.irem, 1) := by decide +kernel
theorem dX11_goSplit_13 : decode cX11_goSplit 13 = .ok (.ifCond .ne 32, 3) := by decide +kernel
theorem dX11_goSplit_16 : decode cX11_goSplit 16 = .ok (.iload_n 2, 1) := by decide +kernel
theorem dX11_goSplit_17 : decode cX11_goSplit 17 = .ok (.iload_n 3, 1) := by decide +kernel
theorem dX11_goSplit_18 : decode cX11_goSplit 18 = .ok (.idiv, 1) := by decide +kernel
theorem dX11_goSplit_19 : decode cX11_goSplit 19 = .ok (.iconst 1, 1) := by decide +kernel
theorem dX11_goSplit_20 : decode cX11_goSplit 20 = .ok (.if_icmp .le 25, 3) := by decide +kernel
theorem dX11_goSplit_23 : decode cX11_goSplit 23 = .ok (.aload_n 0, 1) := by decide +kernel
theorem dX11_goSplit_24 : decode cX11_goSplit 24 = .ok (.iload_n 1, 1) := by decide +kernel
theorem dX11_goSplit_25 : decode cX11_goSplit 25 = .ok (.iload_n 3, 1) := by decide +kernel
theorem dX11_goSplit_26 : decode cX11_goSplit 26 = .ok (.invokevirtual 243, 3) := by decide +kernel
theorem dX11_goSplit_29 : decode cX11_goSplit 29 = .ok (.aload_n 0, 1) := by decide +kernel
theorem dX11_goSplit_30 : decode cX11_goSplit 30 = .ok (.invokevirtual 247, 3) := by decide +kernel
theorem dX11_goSplit_33 : decode cX11_goSplit 33 = .ok (.aload_n 0, 1) := by decide +kernel
theorem dX11_goSplit_34 : decode cX11_goSplit 34 = .ok (.iload_n 1, 1) := by decide +kernel
theorem dX11_goSplit_35 : decode cX11_goSplit 35 = .ok (.iload_n 3, 1) := by decide +kernel
theorem dX11_goSplit_36 : decode cX11_goSplit 36 = .ok (.imul, 1) := by decide +kernel
theorem dX11_goSplit_37 : decode cX11_goSplit 37 = .ok (.iload_n 2, 1) := by decide +kernel
theorem dX11_goSplit_38 : decode cX11_goSplit 38 = .ok (.iload_n 3, 1) := by decide +kernel
theorem dX11_goSplit_39 : decode cX11_goSplit 39 = .ok (.idiv, 1) := by decide +kernel
theorem dX11_goSplit_40 : decode cX11_goSplit 40 = .ok (.invokevirtual 243, 3) := by decide +kernel
theorem dX11_goSplit_43 : decode cX11_goSplit 43 = .ok (.iconst 1, 1) := by decide +kernel
theorem dX11_goSplit_44 : decode cX11_goSplit 44 = .ok (.ireturn, 1) := by decide +kernel
theorem dX11_goSplit_45 : decode cX11_goSplit 45 = .ok (.iinc 3 (-1), 3) := by decide +kernel
theorem dX11_goSplit_48 : decode cX11_goSplit 48 = .ok (.goto (-43), 3) := by decide +kernel
theorem dX11_goSplit_51 : decode cX11_goSplit 51 = .ok (.iconst 0, 1) := by decide +kernel
theorem dX11_goSplit_52 : decode cX11_goSplit 52 = .ok (.ireturn, 1) := by decide +kernel
theorem dX11_isKnown_0 : decode cX11_isKnown 0 = .ok (.iload_n 1, 1) := by decide +kernel
theorem dX11_isKnown_1 : decode cX11_isKnown 1 = .ok (.aload_n 0, 1) := by decide +kernel
theorem dX11_isKnown_2 : decode cX11_isKnown 2 = .ok (.getfield 253, 3) := by decide +kernel
theorem dX11_isKnown_5 : decode cX11_isKnown 5 = .ok (.if_icmp .gt 11, 3) := by decide +kernel
theorem dX11_isKnown_8 : decode cX11_isKnown 8 = .ok (.iload_n 2, 1) := by decide +kernel
theorem dX11_isKnown_9 : decode cX11_isKnown 9 = .ok (.aload_n 0, 1) := by decide +kernel
theorem dX11_isKnown_10 : decode cX11_isKnown 10 = .ok (.getfield 253, 3) := by decide +kernel
theorem dX11_isKnown_13 : decode cX11_isKnown 13 = .ok (.if_icmp .le 21, 3) := by decide +kernel
theorem dX11_isKnown_16 : decode cX11_isKnown 16 = .ok (.aload_n 0, 1) := by decide +kernel
theorem dX11_isKnown_17 : decode cX11_isKnown 17 = .ok (.aload_n 0, 1) := by decide +kernel
theorem dX11_isKnown_18 : decode cX11_isKnown 18 = .ok (.getfield 217, 3) := by decide +kernel
theorem dX11_isKnown_21 : decode cX11_isKnown 21 = .ok (.sipush 10000, 3) := by decide +kernel
theorem dX11_isKnown_24 : decode cX11_isKnown 24 = .ok (.iload_n 1, 1) := by decide +kernel
theorem dX11_isKnown_25 : decode cX11_isKnown 25 = .ok (.imul, 1) := by decide +kernel
theorem dX11_isKnown_26 : decode cX11_isKnown 26 = .ok (.iload_n 2, 1) := by decide +kernel
theorem dX11_isKnown_27 : decode cX11_isKnown 27 = .ok (.iadd, 1) := by decide +kernel
theorem dX11_isKnown_28 : decode cX11_isKnown 28 = .ok (.invokevirtual 256, 3) := by decide +kernel
theorem dX11_isKnown_31 : decode cX11_isKnown 31 = .ok (.ifCond .eq 7, 3) := by decide +kernel
theorem dX11_isKnown_34 : decode cX11_isKnown 34 = .ok (.iconst 1, 1) := by decide +kernel
theorem dX11_isKnown_35 : decode cX11_isKnown 35 = .ok (.goto 4, 3) := by decide +kernel
theorem dX11_isKnown_38 : decode cX11_isKnown 38 = .ok (.iconst 0, 1) := by decide +kernel
theorem dX11_isKnown_39 : decode cX11_isKnown 39 = .ok (.ireturn, 1) := by decide +kernel
theorem dX11_layOut_0 : decode cX11_layOut 0 = .ok (.aload_n 0, 1) := by decide +kernel
theorem dX11_layOut_1 : decode cX11_layOut 1 = .ok (.iload_n 1, 1) := by decide +kernel
theorem dX11_layOut_2 : decode cX11_layOut 2 = .ok (.putfield 217, 3) := by decide +kernel
theorem dX11_layOut_5 : decode cX11_layOut 5 = .ok (.aload_n 0, 1) := by decide +kernel
theorem dX11_layOut_6 : decode cX11_layOut 6 = .ok (.iload 4, 2) := by decide +kernel
theorem dX11_layOut_8 : decode cX11_layOut 8 = .ok (.ifCond .le 8, 3) := by decide +kernel
theorem dX11_layOut_11 : decode cX11_layOut 11 = .ok (.iload 4, 2) := by decide +kernel
theorem dX11_layOut_13 : decode cX11_layOut 13 = .ok (.goto 13, 3) := by decide +kernel
theorem dX11_layOut_16 : decode cX11_layOut 16 = .ok (.aload_n 0, 1) := by decide +kernel
theorem dX11_layOut_17 : decode cX11_layOut 17 = .ok (.getfield 9, 3) := by decide +kernel
theorem dX11_layOut_20 : decode cX11_layOut 20 = .ok (.iconst 5, 1) := by decide +kernel
theorem dX11_layOut_21 : decode cX11_layOut 21 = .ok (.iload_n 1, 1) := by decide +kernel
theorem dX11_layOut_22 : decode cX11_layOut 22 = .ok (.imul, 1) := by decide +kernel
theorem dX11_layOut_23 : decode cX11_layOut 23 = .ok (.iconst 3, 1) := by decide +kernel
theorem dX11_layOut_24 : decode cX11_layOut 24 = .ok (.iadd, 1) := by decide +kernel
theorem dX11_layOut_25 : decode cX11_layOut 25 = .ok (.iaload, 1) := by decide +kernel
theorem dX11_layOut_26 : decode cX11_layOut 26 = .ok (.putfield 253, 3) := by decide +kernel
theorem dX11_layOut_29 : decode cX11_layOut 29 = .ok (.aload_n 0, 1) := by decide +kernel
theorem dX11_layOut_30 : decode cX11_layOut 30 = .ok (.iconst 0, 1) := by decide +kernel
theorem dX11_layOut_31 : decode cX11_layOut 31 = .ok (.putfield 214, 3) := by decide +kernel
theorem dX11_layOut_34 : decode cX11_layOut 34 = .ok (.aload_n 0, 1) := by decide +kernel
theorem dX11_layOut_35 : decode cX11_layOut 35 = .ok (.iconst 0, 1) := by decide +kernel
theorem dX11_layOut_36 : decode cX11_layOut 36 = .ok (.putfield 223, 3) := by decide +kernel
theorem dX11_layOut_39 : decode cX11_layOut 39 = .ok (.aload_n 0, 1) := by decide +kernel
theorem dX11_layOut_40 : decode cX11_layOut 40 = .ok (.iconst 0, 1) := by decide +kernel
theorem dX11_layOut_41 : decode cX11_layOut 41 = .ok (.putfield 226, 3) := by decide +kernel
theorem dX11_layOut_44 : decode cX11_layOut 44 = .ok (.iload_n 3, 1) := by decide +kernel
theorem dX11_layOut_45 : decode cX11_layOut 45 = .ok (.sipush 10000, 3) := by decide +kernel
theorem dX11_layOut_48 : decode cX11_layOut 48 = .ok (.idiv, 1) := by decide +kernel
theorem dX11_layOut_49 : decode cX11_layOut 49 = .ok (.istore 5, 2) := by decide +kernel
theorem dX11_layOut_51 : decode cX11_layOut 51 = .ok (.iload_n 3, 1) := by decide +kernel
theorem dX11_layOut_52 : decode cX11_layOut 52 = .ok (.sipush 10000, 3) := by decide +kernel
theorem dX11_layOut_55 : decode cX11_layOut 55 = .ok (.irem, 1) := by decide +kernel
theorem dX11_layOut_56 : decode cX11_layOut 56 = .ok (.istore 6, 2) := by decide +kernel
theorem dX11_layOut_58 : decode cX11_layOut 58 = .ok (.iload_n 2, 1) := by decide +kernel
theorem dX11_layOut_59 : decode cX11_layOut 59 = .ok (.tableswitch 133 0 5 #[37, 85, 95, 105, 115, 124], 37) := by decide +kernel
theorem dX11_layOut_96 : decode cX11_layOut 96 = .ok (.aload_n 0, 1) := by decide +kernel
theorem dX11_layOut_97 : decode cX11_layOut 97 = .ok (.iload 5, 2) := by decide +kernel
theorem dX11_layOut_99 : decode cX11_layOut 99 = .ok (.iload 6, 2) := by decide +kernel
theorem dX11_layOut_101 : decode cX11_layOut 101 = .ok (.invokevirtual 259, 3) := by decide +kernel
theorem dX11_layOut_104 : decode cX11_layOut 104 = .ok (.ifCond .ne 5, 3) := by decide +kernel
theorem dX11_layOut_107 : decode cX11_layOut 107 = .ok (.iconst 0, 1) := by decide +kernel
theorem dX11_layOut_108 : decode cX11_layOut 108 = .ok (.ireturn, 1) := by decide +kernel
theorem dX11_layOut_109 : decode cX11_layOut 109 = .ok (.aload_n 0, 1) := by decide +kernel
theorem dX11_layOut_110 : decode cX11_layOut 110 = .ok (.iload 5, 2) := by decide +kernel
theorem dX11_layOut_112 : decode cX11_layOut 112 = .ok (.iload 6, 2) := by decide +kernel
theorem dX11_layOut_114 : decode cX11_layOut 114 = .ok (.imul, 1) := by decide +kernel
theorem dX11_layOut_115 : decode cX11_layOut 115 = .ok (.putfield 226, 3) := by decide +kernel
theorem dX11_layOut_118 : decode cX11_layOut 118 = .ok (.aload_n 0, 1) := by decide +kernel
theorem dX11_layOut_119 : decode cX11_layOut 119 = .ok (.iconst 0, 1) := by decide +kernel
theorem dX11_layOut_120 : decode cX11_layOut 120 = .ok (.aload_n 0, 1) := by decide +kernel
theorem dX11_layOut_121 : decode cX11_layOut 121 = .ok (.getfield 226, 3) := by decide +kernel
theorem dX11_layOut_124 : decode cX11_layOut 124 = .ok (.iload 5, 2) := by decide +kernel
theorem dX11_layOut_126 : decode cX11_layOut 126 = .ok (.iload 6, 2) := by decide +kernel
theorem dX11_layOut_128 : decode cX11_layOut 128 = .ok (.if_icmp .ge 8, 3) := by decide +kernel
theorem dX11_layOut_131 : decode cX11_layOut 131 = .ok (.iload 5, 2) := by decide +kernel
theorem dX11_layOut_133 : decode cX11_layOut 133 = .ok (.goto 5, 3) := by decide +kernel
theorem dX11_layOut_136 : decode cX11_layOut 136 = .ok (.iload 6, 2) := by decide +kernel
theorem dX11_layOut_138 : decode cX11_layOut 138 = .ok (.iconst 0, 1) := by decide +kernel
theorem dX11_layOut_139 : decode cX11_layOut 139 = .ok (.invokevirtual 229, 3) := by decide +kernel
theorem dX11_layOut_142 : decode cX11_layOut 142 = .ok (.iconst 1, 1) := by decide +kernel
theorem dX11_layOut_143 : decode cX11_layOut 143 = .ok (.ireturn, 1) := by decide +kernel
theorem dX11_layOut_144 : decode cX11_layOut 144 = .ok (.aload_n 0, 1) := by decide +kernel
theorem dX11_layOut_145 : decode cX11_layOut 145 = .ok (.iload 5, 2) := by decide +kernel
theorem dX11_layOut_147 : decode cX11_layOut 147 = .ok (.iload 6, 2) := by decide +kernel
theorem dX11_layOut_149 : decode cX11_layOut 149 = .ok (.invokevirtual 243, 3) := by decide +kernel
theorem dX11_layOut_152 : decode cX11_layOut 152 = .ok (.iconst 1, 1) := by decide +kernel
theorem dX11_layOut_153 : decode cX11_layOut 153 = .ok (.ireturn, 1) := by decide +kernel
theorem dX11_layOut_154 : decode cX11_layOut 154 = .ok (.aload_n 0, 1) := by decide +kernel
theorem dX11_layOut_155 : decode cX11_layOut 155 = .ok (.iload 5, 2) := by decide +kernel
theorem dX11_layOut_157 : decode cX11_layOut 157 = .ok (.iload 6, 2) := by decide +kernel
theorem dX11_layOut_159 : decode cX11_layOut 159 = .ok (.invokevirtual 262, 3) := by decide +kernel
theorem dX11_layOut_162 : decode cX11_layOut 162 = .ok (.iconst 1, 1) := by decide +kernel
theorem dX11_layOut_163 : decode cX11_layOut 163 = .ok (.ireturn, 1) := by decide +kernel
theorem dX11_layOut_164 : decode cX11_layOut 164 = .ok (.aload_n 0, 1) := by decide +kernel
theorem dX11_layOut_165 : decode cX11_layOut 165 = .ok (.iload 5, 2) := by decide +kernel
theorem dX11_layOut_167 : decode cX11_layOut 167 = .ok (.iload 6, 2) := by decide +kernel
theorem dX11_layOut_169 : decode cX11_layOut 169 = .ok (.invokevirtual 265, 3) := by decide +kernel
theorem dX11_layOut_172 : decode cX11_layOut 172 = .ok (.iconst 1, 1) := by decide +kernel
theorem dX11_layOut_173 : decode cX11_layOut 173 = .ok (.ireturn, 1) := by decide +kernel
theorem dX11_layOut_174 : decode cX11_layOut 174 = .ok (.aload_n 0, 1) := by decide +kernel
theorem dX11_layOut_175 : decode cX11_layOut 175 = .ok (.iload 5, 2) := by decide +kernel
theorem dX11_layOut_177 : decode cX11_layOut 177 = .ok (.iload 6, 2) := by decide +kernel
theorem dX11_layOut_179 : decode cX11_layOut 179 = .ok (.invokevirtual 268, 3) := by decide +kernel
theorem dX11_layOut_182 : decode cX11_layOut 182 = .ok (.ireturn, 1) := by decide +kernel
theorem dX11_layOut_183 : decode cX11_layOut 183 = .ok (.aload_n 0, 1) := by decide +kernel
theorem dX11_layOut_184 : decode cX11_layOut 184 = .ok (.iload 5, 2) := by decide +kernel
theorem dX11_layOut_186 : decode cX11_layOut 186 = .ok (.iload 6, 2) := by decide +kernel
theorem dX11_layOut_188 : decode cX11_layOut 188 = .ok (.invokevirtual 271, 3) := by decide +kernel
theorem dX11_layOut_191 : decode cX11_layOut 191 = .ok (.ireturn, 1) := by decide +kernel
theorem dX11_layOut_192 : decode cX11_layOut 192 = .ok (.aload_n 0, 1) := by decide +kernel
theorem dX11_layOut_193 : decode cX11_layOut 193 = .ok (.iload 6, 2) := by decide +kernel
theorem dX11_layOut_195 : decode cX11_layOut 195 = .ok (.iload 5, 2) := by decide +kernel
theorem dX11_layOut_197 : decode cX11_layOut 197 = .ok (.invokevirtual 262, 3) := by decide +kernel
theorem dX11_layOut_200 : decode cX11_layOut 200 = .ok (.iconst 1, 1) := by decide +kernel
theorem dX11_layOut_201 : decode cX11_layOut 201 = .ok (.ireturn, 1) := by decide +kernel
theorem dX11_seconds_0 : decode cX11_seconds 0 = .ok (.iconst 0, 1) := by decide +kernel
theorem dX11_seconds_1 : decode cX11_seconds 1 = .ok (.istore_n 1, 1) := by decide +kernel
theorem dX11_seconds_2 : decode cX11_seconds 2 = .ok (.iconst 0, 1) := by decide +kernel
theorem dX11_seconds_3 : decode cX11_seconds 3 = .ok (.istore_n 2, 1) := by decide +kernel
theorem dX11_seconds_4 : decode cX11_seconds 4 = .ok (.iload_n 2, 1) := by decide +kernel
theorem dX11_seconds_5 : decode cX11_seconds 5 = .ok (.aload_n 0, 1) := by decide +kernel
theorem dX11_seconds_6 : decode cX11_seconds 6 = .ok (.getfield 214, 3) := by decide +kernel
theorem dX11_seconds_9 : decode cX11_seconds 9 = .ok (.if_icmp .ge 18, 3) := by decide +kernel
theorem dX11_seconds_12 : decode cX11_seconds 12 = .ok (.iload_n 1, 1) := by decide +kernel
theorem dX11_seconds_13 : decode cX11_seconds 13 = .ok (.aload_n 0, 1) := by decide +kernel
theorem dX11_seconds_14 : decode cX11_seconds 14 = .ok (.getfield 49, 3) := by decide +kernel
theorem dX11_seconds_17 : decode cX11_seconds 17 = .ok (.iload_n 2, 1) := by decide +kernel
theorem dX11_seconds_18 : decode cX11_seconds 18 = .ok (.iaload, 1) := by decide +kernel
theorem dX11_seconds_19 : decode cX11_seconds 19 = .ok (.iadd, 1) := by decide +kernel
theorem dX11_seconds_20 : decode cX11_seconds 20 = .ok (.istore_n 1, 1) := by decide +kernel
theorem dX11_seconds_21 : decode cX11_seconds 21 = .ok (.iinc 2 1, 3) := by decide +kernel
theorem dX11_seconds_24 : decode cX11_seconds 24 = .ok (.goto (-20), 3) := by decide +kernel
theorem dX11_seconds_27 : decode cX11_seconds 27 = .ok (.iload_n 1, 1) := by decide +kernel
theorem dX11_seconds_28 : decode cX11_seconds 28 = .ok (.ireturn, 1) := by decide +kernel
theorem dX11_mostHeld_0 : decode cX11_mostHeld 0 = .ok (.iconst 0, 1) := by decide +kernel
theorem dX11_mostHeld_1 : decode cX11_mostHeld 1 = .ok (.istore_n 1, 1) := by decide +kernel
theorem dX11_mostHeld_2 : decode cX11_mostHeld 2 = .ok (.iconst 0, 1) := by decide +kernel
theorem dX11_mostHeld_3 : decode cX11_mostHeld 3 = .ok (.istore_n 2, 1) := by decide +kernel
theorem dX11_mostHeld_4 : decode cX11_mostHeld 4 = .ok (.iload_n 2, 1) := by decide +kernel
theorem dX11_mostHeld_5 : decode cX11_mostHeld 5 = .ok (.aload_n 0, 1) := by decide +kernel
theorem dX11_mostHeld_6 : decode cX11_mostHeld 6 = .ok (.getfield 214, 3) := by decide +kernel
theorem dX11_mostHeld_9 : decode cX11_mostHeld 9 = .ok (.if_icmp .ge 30, 3) := by decide +kernel
theorem dX11_mostHeld_12 : decode cX11_mostHeld 12 = .ok (.aload_n 0, 1) := by decide +kernel
theorem dX11_mostHeld_13 : decode cX11_mostHeld 13 = .ok (.getfield 52, 3) := by decide +kernel
theorem dX11_mostHeld_16 : decode cX11_mostHeld 16 = .ok (.iload_n 2, 1) := by decide +kernel
theorem dX11_mostHeld_17 : decode cX11_mostHeld 17 = .ok (.iaload, 1) := by decide +kernel
theorem dX11_mostHeld_18 : decode cX11_mostHeld 18 = .ok (.iload_n 1, 1) := by decide +kernel
theorem dX11_mostHeld_19 : decode cX11_mostHeld 19 = .ok (.if_icmp .le 12, 3) := by decide +kernel
theorem dX11_mostHeld_22 : decode cX11_mostHeld 22 = .ok (.aload_n 0, 1) := by decide +kernel
theorem dX11_mostHeld_23 : decode cX11_mostHeld 23 = .ok (.getfield 52, 3) := by decide +kernel
theorem dX11_mostHeld_26 : decode cX11_mostHeld 26 = .ok (.iload_n 2, 1) := by decide +kernel
theorem dX11_mostHeld_27 : decode cX11_mostHeld 27 = .ok (.iaload, 1) := by decide +kernel
theorem dX11_mostHeld_28 : decode cX11_mostHeld 28 = .ok (.goto 4, 3) := by decide +kernel
theorem dX11_mostHeld_31 : decode cX11_mostHeld 31 = .ok (.iload_n 1, 1) := by decide +kernel
theorem dX11_mostHeld_32 : decode cX11_mostHeld 32 = .ok (.istore_n 1, 1) := by decide +kernel
theorem dX11_mostHeld_33 : decode cX11_mostHeld 33 = .ok (.iinc 2 1, 3) := by decide +kernel
theorem dX11_mostHeld_36 : decode cX11_mostHeld 36 = .ok (.goto (-32), 3) := by decide +kernel
theorem dX11_mostHeld_39 : decode cX11_mostHeld 39 = .ok (.iload_n 1, 1) := by decide +kernel
theorem dX11_mostHeld_40 : decode cX11_mostHeld 40 = .ok (.ireturn, 1) := by decide +kernel
theorem dX11_isHw_0 : decode cX11_isHw 0 = .ok (.iload_n 1, 1) := by decide +kernel
theorem dX11_isHw_1 : decode cX11_isHw 1 = .ok (.ifCond .lt 27, 3) := by decide +kernel
theorem dX11_isHw_4 : decode cX11_isHw 4 = .ok (.aload_n 0, 1) := by decide +kernel
theorem dX11_isHw_5 : decode cX11_isHw 5 = .ok (.iload_n 1, 1) := by decide +kernel
theorem dX11_isHw_6 : decode cX11_isHw 6 = .ok (.bipush 10, 2) := by decide +kernel
theorem dX11_isHw_8 : decode cX11_isHw 8 = .ok (.idiv, 1) := by decide +kernel
theorem dX11_isHw_9 : decode cX11_isHw 9 = .ok (.invokevirtual 188, 3) := by decide +kernel
theorem dX11_isHw_12 : decode cX11_isHw 12 = .ok (.ifCond .eq 16, 3) := by decide +kernel
theorem dX11_isHw_15 : decode cX11_isHw 15 = .ok (.iload_n 1, 1) := by decide +kernel
theorem dX11_isHw_16 : decode cX11_isHw 16 = .ok (.bipush 10, 2) := by decide +kernel
theorem dX11_isHw_18 : decode cX11_isHw 18 = .ok (.irem, 1) := by decide +kernel
theorem dX11_isHw_19 : decode cX11_isHw 19 = .ok (.bipush 7, 2) := by decide +kernel
theorem dX11_isHw_21 : decode cX11_isHw 21 = .ok (.if_icmp .ge 7, 3) := by decide +kernel
theorem dX11_isHw_24 : decode cX11_isHw 24 = .ok (.iconst 1, 1) := by decide +kernel
theorem dX11_isHw_25 : decode cX11_isHw 25 = .ok (.goto 4, 3) := by decide +kernel
theorem dX11_isHw_28 : decode cX11_isHw 28 = .ok (.iconst 0, 1) := by decide +kernel
theorem dX11_isHw_29 : decode cX11_isHw 29 = .ok (.ireturn, 1) := by decide +kernel
theorem dX11_way_0 : decode cX11_way 0 = .ok (.aload_n 0, 1) := by decide +kernel
theorem dX11_way_1 : decode cX11_way 1 = .ok (.iload_n 1, 1) := by decide +kernel
theorem dX11_way_2 : decode cX11_way 2 = .ok (.invokevirtual 274, 3) := by decide +kernel
theorem dX11_way_5 : decode cX11_way 5 = .ok (.ifCond .eq 22, 3) := by decide +kernel
theorem dX11_way_8 : decode cX11_way 8 = .ok (.iload_n 2, 1) := by decide +kernel
theorem dX11_way_9 : decode cX11_way 9 = .ok (.invokestatic 208, 3) := by decide +kernel
theorem dX11_way_12 : decode cX11_way 12 = .ok (.ifCond .eq 15, 3) := by decide +kernel
theorem dX11_way_15 : decode cX11_way 15 = .ok (.iload_n 3, 1) := by decide +kernel
theorem dX11_way_16 : decode cX11_way 16 = .ok (.i2l, 1) := by decide +kernel
theorem dX11_way_17 : decode cX11_way 17 = .ok (.lconst 0, 1) := by decide +kernel
theorem dX11_way_18 : decode cX11_way 18 = .ok (.ldc2_w 277, 3) := by decide +kernel
theorem dX11_way_21 : decode cX11_way 21 = .ok (.invokestatic 113, 3) := by decide +kernel
theorem dX11_way_24 : decode cX11_way 24 = .ok (.ifCond .ne 5, 3) := by decide +kernel
theorem dX11_way_27 : decode cX11_way 27 = .ok (.iconst (-1), 1) := by decide +kernel
theorem dX11_way_28 : decode cX11_way 28 = .ok (.ireturn, 1) := by decide +kernel
theorem dX11_way_29 : decode cX11_way 29 = .ok (.aload_n 0, 1) := by decide +kernel
theorem dX11_way_30 : decode cX11_way 30 = .ok (.iload_n 1, 1) := by decide +kernel
theorem dX11_way_31 : decode cX11_way 31 = .ok (.bipush 10, 2) := by decide +kernel
theorem dX11_way_33 : decode cX11_way 33 = .ok (.idiv, 1) := by decide +kernel
theorem dX11_way_34 : decode cX11_way 34 = .ok (.iload_n 1, 1) := by decide +kernel
theorem dX11_way_35 : decode cX11_way 35 = .ok (.bipush 10, 2) := by decide +kernel
theorem dX11_way_37 : decode cX11_way 37 = .ok (.irem, 1) := by decide +kernel
theorem dX11_way_38 : decode cX11_way 38 = .ok (.iload_n 2, 1) := by decide +kernel
theorem dX11_way_39 : decode cX11_way 39 = .ok (.iconst 0, 1) := by decide +kernel
theorem dX11_way_40 : decode cX11_way 40 = .ok (.invokevirtual 279, 3) := by decide +kernel
theorem dX11_way_43 : decode cX11_way 43 = .ok (.ifCond .ne 6, 3) := by decide +kernel
theorem dX11_way_46 : decode cX11_way 46 = .ok (.bipush (-2), 2) := by decide +kernel
theorem dX11_way_48 : decode cX11_way 48 = .ok (.ireturn, 1) := by decide +kernel
theorem dX11_way_49 : decode cX11_way 49 = .ok (.iload_n 3, 1) := by decide +kernel
theorem dX11_way_50 : decode cX11_way 50 = .ok (.ifCond .ne 10, 3) := by decide +kernel
theorem dX11_way_53 : decode cX11_way 53 = .ok (.aload_n 0, 1) := by decide +kernel
theorem dX11_way_54 : decode cX11_way 54 = .ok (.invokevirtual 283, 3) := by decide +kernel
theorem dX11_way_57 : decode cX11_way 57 = .ok (.goto 19, 3) := by decide +kernel
theorem dX11_way_60 : decode cX11_way 60 = .ok (.iload_n 3, 1) := by decide +kernel
theorem dX11_way_61 : decode cX11_way 61 = .ok (.iconst 1, 1) := by decide +kernel
theorem dX11_way_62 : decode cX11_way 62 = .ok (.if_icmp .ne 10, 3) := by decide +kernel
theorem dX11_way_65 : decode cX11_way 65 = .ok (.aload_n 0, 1) := by decide +kernel
theorem dX11_way_66 : decode cX11_way 66 = .ok (.invokevirtual 286, 3) := by decide +kernel
theorem dX11_way_69 : decode cX11_way 69 = .ok (.goto 7, 3) := by decide +kernel
theorem dX11_way_72 : decode cX11_way 72 = .ok (.aload_n 0, 1) := by decide +kernel
theorem dX11_way_73 : decode cX11_way 73 = .ok (.getfield 214, 3) := by decide +kernel
theorem dX11_way_76 : decode cX11_way 76 = .ok (.ireturn, 1) := by decide +kernel
theorem dX11_step_0 : decode cX11_step 0 = .ok (.aload_n 0, 1) := by decide +kernel
theorem dX11_step_1 : decode cX11_step 1 = .ok (.iload_n 1, 1) := by decide +kernel
theorem dX11_step_2 : decode cX11_step 2 = .ok (.invokevirtual 274, 3) := by decide +kernel
theorem dX11_step_5 : decode cX11_step 5 = .ok (.ifCond .eq 56, 3) := by decide +kernel
theorem dX11_step_8 : decode cX11_step 8 = .ok (.iload_n 2, 1) := by decide +kernel
theorem dX11_step_9 : decode cX11_step 9 = .ok (.invokestatic 208, 3) := by decide +kernel
theorem dX11_step_12 : decode cX11_step 12 = .ok (.ifCond .eq 49, 3) := by decide +kernel
theorem dX11_step_15 : decode cX11_step 15 = .ok (.iload 4, 2) := by decide +kernel
theorem dX11_step_17 : decode cX11_step 17 = .ok (.i2l, 1) := by decide +kernel
theorem dX11_step_18 : decode cX11_step 18 = .ok (.lconst 0, 1) := by decide +kernel
theorem dX11_step_19 : decode cX11_step 19 = .ok (.ldc2_w 289, 3) := by decide +kernel
theorem dX11_step_22 : decode cX11_step 22 = .ok (.invokestatic 113, 3) := by decide +kernel
theorem dX11_step_25 : decode cX11_step 25 = .ok (.ifCond .eq 36, 3) := by decide +kernel
theorem dX11_step_28 : decode cX11_step 28 = .ok (.aload_n 0, 1) := by decide +kernel
theorem dX11_step_29 : decode cX11_step 29 = .ok (.iload_n 1, 1) := by decide +kernel
theorem dX11_step_30 : decode cX11_step 30 = .ok (.bipush 10, 2) := by decide +kernel
theorem dX11_step_32 : decode cX11_step 32 = .ok (.idiv, 1) := by decide +kernel
theorem dX11_step_33 : decode cX11_step 33 = .ok (.iload_n 1, 1) := by decide +kernel
theorem dX11_step_34 : decode cX11_step 34 = .ok (.bipush 10, 2) := by decide +kernel
theorem dX11_step_36 : decode cX11_step 36 = .ok (.irem, 1) := by decide +kernel
theorem dX11_step_37 : decode cX11_step 37 = .ok (.iload_n 2, 1) := by decide +kernel
theorem dX11_step_38 : decode cX11_step 38 = .ok (.iconst 0, 1) := by decide +kernel
theorem dX11_step_39 : decode cX11_step 39 = .ok (.invokevirtual 279, 3) := by decide +kernel
theorem dX11_step_42 : decode cX11_step 42 = .ok (.ifCond .eq 19, 3) := by decide +kernel
theorem dX11_step_45 : decode cX11_step 45 = .ok (.iload_n 3, 1) := by decide +kernel
theorem dX11_step_46 : decode cX11_step 46 = .ok (.i2l, 1) := by decide +kernel
theorem dX11_step_47 : decode cX11_step 47 = .ok (.lconst 0, 1) := by decide +kernel
theorem dX11_step_48 : decode cX11_step 48 = .ok (.aload_n 0, 1) := by decide +kernel
theorem dX11_step_49 : decode cX11_step 49 = .ok (.getfield 214, 3) := by decide +kernel
theorem dX11_step_52 : decode cX11_step 52 = .ok (.iconst 1, 1) := by decide +kernel
theorem dX11_step_53 : decode cX11_step 53 = .ok (.isub, 1) := by decide +kernel
theorem dX11_step_54 : decode cX11_step 54 = .ok (.i2l, 1) := by decide +kernel
theorem dX11_step_55 : decode cX11_step 55 = .ok (.invokestatic 113, 3) := by decide +kernel
theorem dX11_step_58 : decode cX11_step 58 = .ok (.ifCond .ne 7, 3) := by decide +kernel
theorem dX11_step_61 : decode cX11_step 61 = .ok (.ldc_w 291, 3) := by decide +kernel
theorem dX11_step_64 : decode cX11_step 64 = .ok (.ireturn, 1) := by decide +kernel
theorem dX11_step_65 : decode cX11_step 65 = .ok (.iload 4, 2) := by decide +kernel
theorem dX11_step_67 : decode cX11_step 67 = .ok (.ifCond .ne 12, 3) := by decide +kernel
theorem dX11_step_70 : decode cX11_step 70 = .ok (.aload_n 0, 1) := by decide +kernel
theorem dX11_step_71 : decode cX11_step 71 = .ok (.getfield 43, 3) := by decide +kernel
theorem dX11_step_74 : decode cX11_step 74 = .ok (.iload_n 3, 1) := by decide +kernel
theorem dX11_step_75 : decode cX11_step 75 = .ok (.iaload, 1) := by decide +kernel
theorem dX11_step_76 : decode cX11_step 76 = .ok (.goto 39, 3) := by decide +kernel
theorem dX11_step_79 : decode cX11_step 79 = .ok (.iload 4, 2) := by decide +kernel
theorem dX11_step_81 : decode cX11_step 81 = .ok (.iconst 1, 1) := by decide +kernel
theorem dX11_step_82 : decode cX11_step 82 = .ok (.if_icmp .ne 12, 3) := by decide +kernel
theorem dX11_step_85 : decode cX11_step 85 = .ok (.aload_n 0, 1) := by decide +kernel
theorem dX11_step_86 : decode cX11_step 86 = .ok (.getfield 46, 3) := by decide +kernel
theorem dX11_step_89 : decode cX11_step 89 = .ok (.iload_n 3, 1) := by decide +kernel
theorem dX11_step_90 : decode cX11_step 90 = .ok (.iaload, 1) := by decide +kernel
theorem dX11_step_91 : decode cX11_step 91 = .ok (.goto 24, 3) := by decide +kernel
theorem dX11_step_94 : decode cX11_step 94 = .ok (.iload 4, 2) := by decide +kernel
theorem dX11_step_96 : decode cX11_step 96 = .ok (.iconst 2, 1) := by decide +kernel
theorem dX11_step_97 : decode cX11_step 97 = .ok (.if_icmp .ne 12, 3) := by decide +kernel
theorem dX11_step_100 : decode cX11_step 100 = .ok (.aload_n 0, 1) := by decide +kernel
theorem dX11_step_101 : decode cX11_step 101 = .ok (.getfield 49, 3) := by decide +kernel
theorem dX11_step_104 : decode cX11_step 104 = .ok (.iload_n 3, 1) := by decide +kernel
theorem dX11_step_105 : decode cX11_step 105 = .ok (.iaload, 1) := by decide +kernel
theorem dX11_step_106 : decode cX11_step 106 = .ok (.goto 9, 3) := by decide +kernel
theorem dX11_step_109 : decode cX11_step 109 = .ok (.aload_n 0, 1) := by decide +kernel
theorem dX11_step_110 : decode cX11_step 110 = .ok (.getfield 52, 3) := by decide +kernel
theorem dX11_step_113 : decode cX11_step 113 = .ok (.iload_n 3, 1) := by decide +kernel
theorem dX11_step_114 : decode cX11_step 114 = .ok (.iaload, 1) := by decide +kernel
theorem dX11_step_115 : decode cX11_step 115 = .ok (.ireturn, 1) := by decide +kernel
theorem dX11_noughtsOf_0 : decode cX11_noughtsOf 0 = .ok (.iconst 0, 1) := by decide +kernel
theorem dX11_noughtsOf_1 : decode cX11_noughtsOf 1 = .ok (.istore_n 1, 1) := by decide +kernel
theorem dX11_noughtsOf_2 : decode cX11_noughtsOf 2 = .ok (.iload_n 0, 1) := by decide +kernel
theorem dX11_noughtsOf_3 : decode cX11_noughtsOf 3 = .ok (.istore_n 2, 1) := by decide +kernel
theorem dX11_noughtsOf_4 : decode cX11_noughtsOf 4 = .ok (.iload_n 2, 1) := by decide +kernel
theorem dX11_noughtsOf_5 : decode cX11_noughtsOf 5 = .ok (.ifCond .le 26, 3) := by decide +kernel
theorem dX11_noughtsOf_8 : decode cX11_noughtsOf 8 = .ok (.iload_n 1, 1) := by decide +kernel
theorem dX11_noughtsOf_9 : decode cX11_noughtsOf 9 = .ok (.iload_n 2, 1) := by decide +kernel
theorem dX11_noughtsOf_10 : decode cX11_noughtsOf 10 = .ok (.bipush 10, 2) := by decide +kernel
theorem dX11_noughtsOf_12 : decode cX11_noughtsOf 12 = .ok (.irem, 1) := by decide +kernel
theorem dX11_noughtsOf_13 : decode cX11_noughtsOf 13 = .ok (.ifCond .ne 7, 3) := by decide +kernel
theorem dX11_noughtsOf_16 : decode cX11_noughtsOf 16 = .ok (.iconst 1, 1) := by decide +kernel
theorem dX11_noughtsOf_17 : decode cX11_noughtsOf 17 = .ok (.goto 4, 3) := by decide +kernel
theorem dX11_noughtsOf_20 : decode cX11_noughtsOf 20 = .ok (.iconst 0, 1) := by decide +kernel
theorem dX11_noughtsOf_21 : decode cX11_noughtsOf 21 = .ok (.iadd, 1) := by decide +kernel
theorem dX11_noughtsOf_22 : decode cX11_noughtsOf 22 = .ok (.istore_n 1, 1) := by decide +kernel
theorem dX11_noughtsOf_23 : decode cX11_noughtsOf 23 = .ok (.iload_n 2, 1) := by decide +kernel
theorem dX11_noughtsOf_24 : decode cX11_noughtsOf 24 = .ok (.bipush 10, 2) := by decide +kernel
theorem dX11_noughtsOf_26 : decode cX11_noughtsOf 26 = .ok (.idiv, 1) := by decide +kernel
theorem dX11_noughtsOf_27 : decode cX11_noughtsOf 27 = .ok (.istore_n 2, 1) := by decide +kernel
theorem dX11_noughtsOf_28 : decode cX11_noughtsOf 28 = .ok (.goto (-24), 3) := by decide +kernel
theorem dX11_noughtsOf_31 : decode cX11_noughtsOf 31 = .ok (.iload_n 1, 1) := by decide +kernel
theorem dX11_noughtsOf_32 : decode cX11_noughtsOf 32 = .ok (.ireturn, 1) := by decide +kernel
theorem dX11_chosenBy_0 : decode cX11_chosenBy 0 = .ok (.iconst 1, 1) := by decide +kernel
theorem dX11_chosenBy_1 : decode cX11_chosenBy 1 = .ok (.istore 4, 2) := by decide +kernel
theorem dX11_chosenBy_3 : decode cX11_chosenBy 3 = .ok (.aload_n 0, 1) := by decide +kernel
theorem dX11_chosenBy_4 : decode cX11_chosenBy 4 = .ok (.getfield 101, 3) := by decide +kernel
theorem dX11_chosenBy_7 : decode cX11_chosenBy 7 = .ok (.ifCond .lt 145, 3) := by decide +kernel
theorem dX11_chosenBy_10 : decode cX11_chosenBy 10 = .ok (.iload_n 2, 1) := by decide +kernel
theorem dX11_chosenBy_11 : decode cX11_chosenBy 11 = .ok (.sipush 10000, 3) := by decide +kernel
theorem dX11_chosenBy_14 : decode cX11_chosenBy 14 = .ok (.idiv, 1) := by decide +kernel
theorem dX11_chosenBy_15 : decode cX11_chosenBy 15 = .ok (.istore 5, 2) := by decide +kernel
theorem dX11_chosenBy_17 : decode cX11_chosenBy 17 = .ok (.iload_n 2, 1) := by decide +kernel
theorem dX11_chosenBy_18 : decode cX11_chosenBy 18 = .ok (.sipush 10000, 3) := by decide +kernel
theorem dX11_chosenBy_21 : decode cX11_chosenBy 21 = .ok (.irem, 1) := by decide +kernel
theorem dX11_chosenBy_22 : decode cX11_chosenBy 22 = .ok (.istore 6, 2) := by decide +kernel
theorem dX11_chosenBy_24 : decode cX11_chosenBy 24 = .ok (.aload_n 0, 1) := by decide +kernel
theorem dX11_chosenBy_25 : decode cX11_chosenBy 25 = .ok (.getfield 28, 3) := by decide +kernel
theorem dX11_chosenBy_28 : decode cX11_chosenBy 28 = .ok (.iconst 0, 1) := by decide +kernel
theorem dX11_chosenBy_29 : decode cX11_chosenBy 29 = .ok (.iload 5, 2) := by decide +kernel
theorem dX11_chosenBy_31 : decode cX11_chosenBy 31 = .ok (.invokestatic 220, 3) := by decide +kernel
theorem dX11_chosenBy_34 : decode cX11_chosenBy 34 = .ok (.iastore, 1) := by decide +kernel
theorem dX11_chosenBy_35 : decode cX11_chosenBy 35 = .ok (.aload_n 0, 1) := by decide +kernel
theorem dX11_chosenBy_36 : decode cX11_chosenBy 36 = .ok (.getfield 28, 3) := by decide +kernel
theorem dX11_chosenBy_39 : decode cX11_chosenBy 39 = .ok (.iconst 1, 1) := by decide +kernel
theorem dX11_chosenBy_40 : decode cX11_chosenBy 40 = .ok (.iload 6, 2) := by decide +kernel
theorem dX11_chosenBy_42 : decode cX11_chosenBy 42 = .ok (.invokestatic 220, 3) := by decide +kernel
theorem dX11_chosenBy_45 : decode cX11_chosenBy 45 = .ok (.iastore, 1) := by decide +kernel
theorem dX11_chosenBy_46 : decode cX11_chosenBy 46 = .ok (.aload_n 0, 1) := by decide +kernel
theorem dX11_chosenBy_47 : decode cX11_chosenBy 47 = .ok (.getfield 28, 3) := by decide +kernel
theorem dX11_chosenBy_50 : decode cX11_chosenBy 50 = .ok (.iconst 2, 1) := by decide +kernel
theorem dX11_chosenBy_51 : decode cX11_chosenBy 51 = .ok (.iload 5, 2) := by decide +kernel
theorem dX11_chosenBy_53 : decode cX11_chosenBy 53 = .ok (.bipush 10, 2) := by decide +kernel
theorem dX11_chosenBy_55 : decode cX11_chosenBy 55 = .ok (.irem, 1) := by decide +kernel
theorem dX11_chosenBy_56 : decode cX11_chosenBy 56 = .ok (.iastore, 1) := by decide +kernel
theorem dX11_chosenBy_57 : decode cX11_chosenBy 57 = .ok (.aload_n 0, 1) := by decide +kernel
theorem dX11_chosenBy_58 : decode cX11_chosenBy 58 = .ok (.getfield 28, 3) := by decide +kernel
theorem dX11_chosenBy_61 : decode cX11_chosenBy 61 = .ok (.iconst 3, 1) := by decide +kernel
theorem dX11_chosenBy_62 : decode cX11_chosenBy 62 = .ok (.iload 6, 2) := by decide +kernel
theorem dX11_chosenBy_64 : decode cX11_chosenBy 64 = .ok (.bipush 10, 2) := by decide +kernel
theorem dX11_chosenBy_66 : decode cX11_chosenBy 66 = .ok (.irem, 1) := by decide +kernel
theorem dX11_chosenBy_67 : decode cX11_chosenBy 67 = .ok (.iastore, 1) := by decide +kernel
theorem dX11_chosenBy_68 : decode cX11_chosenBy 68 = .ok (.aload_n 0, 1) := by decide +kernel
theorem dX11_chosenBy_69 : decode cX11_chosenBy 69 = .ok (.getfield 28, 3) := by decide +kernel
theorem dX11_chosenBy_72 : decode cX11_chosenBy 72 = .ok (.iconst 4, 1) := by decide +kernel
theorem dX11_chosenBy_73 : decode cX11_chosenBy 73 = .ok (.iload 5, 2) := by decide +kernel
theorem dX11_chosenBy_75 : decode cX11_chosenBy 75 = .ok (.iload 6, 2) := by decide +kernel
theorem dX11_chosenBy_77 : decode cX11_chosenBy 77 = .ok (.isub, 1) := by decide +kernel
theorem dX11_chosenBy_78 : decode cX11_chosenBy 78 = .ok (.invokestatic 250, 3) := by decide +kernel
theorem dX11_chosenBy_81 : decode cX11_chosenBy 81 = .ok (.iastore, 1) := by decide +kernel
theorem dX11_chosenBy_82 : decode cX11_chosenBy 82 = .ok (.aload_n 0, 1) := by decide +kernel
theorem dX11_chosenBy_83 : decode cX11_chosenBy 83 = .ok (.getfield 28, 3) := by decide +kernel
theorem dX11_chosenBy_86 : decode cX11_chosenBy 86 = .ok (.iconst 5, 1) := by decide +kernel
theorem dX11_chosenBy_87 : decode cX11_chosenBy 87 = .ok (.iload 5, 2) := by decide +kernel
theorem dX11_chosenBy_89 : decode cX11_chosenBy 89 = .ok (.invokestatic 292, 3) := by decide +kernel
theorem dX11_chosenBy_92 : decode cX11_chosenBy 92 = .ok (.iload 6, 2) := by decide +kernel
theorem dX11_chosenBy_94 : decode cX11_chosenBy 94 = .ok (.invokestatic 292, 3) := by decide +kernel
theorem dX11_chosenBy_97 : decode cX11_chosenBy 97 = .ok (.iadd, 1) := by decide +kernel
theorem dX11_chosenBy_98 : decode cX11_chosenBy 98 = .ok (.iastore, 1) := by decide +kernel
theorem dX11_chosenBy_99 : decode cX11_chosenBy 99 = .ok (.aload_n 0, 1) := by decide +kernel
theorem dX11_chosenBy_100 : decode cX11_chosenBy 100 = .ok (.getfield 28, 3) := by decide +kernel
theorem dX11_chosenBy_103 : decode cX11_chosenBy 103 = .ok (.bipush 6, 2) := by decide +kernel
theorem dX11_chosenBy_105 : decode cX11_chosenBy 105 = .ok (.iload_n 3, 1) := by decide +kernel
theorem dX11_chosenBy_106 : decode cX11_chosenBy 106 = .ok (.ifCond .le 7, 3) := by decide +kernel
theorem dX11_chosenBy_109 : decode cX11_chosenBy 109 = .ok (.iload_n 3, 1) := by decide +kernel
theorem dX11_chosenBy_110 : decode cX11_chosenBy 110 = .ok (.goto 13, 3) := by decide +kernel
theorem dX11_chosenBy_113 : decode cX11_chosenBy 113 = .ok (.aload_n 0, 1) := by decide +kernel
theorem dX11_chosenBy_114 : decode cX11_chosenBy 114 = .ok (.getfield 9, 3) := by decide +kernel
theorem dX11_chosenBy_117 : decode cX11_chosenBy 117 = .ok (.iconst 5, 1) := by decide +kernel
theorem dX11_chosenBy_118 : decode cX11_chosenBy 118 = .ok (.iload_n 1, 1) := by decide +kernel
theorem dX11_chosenBy_119 : decode cX11_chosenBy 119 = .ok (.imul, 1) := by decide +kernel
theorem dX11_chosenBy_120 : decode cX11_chosenBy 120 = .ok (.iconst 3, 1) := by decide +kernel
theorem dX11_chosenBy_121 : decode cX11_chosenBy 121 = .ok (.iadd, 1) := by decide +kernel
theorem dX11_chosenBy_122 : decode cX11_chosenBy 122 = .ok (.iaload, 1) := by decide +kernel
theorem dX11_chosenBy_123 : decode cX11_chosenBy 123 = .ok (.iastore, 1) := by decide +kernel
theorem dX11_chosenBy_124 : decode cX11_chosenBy 124 = .ok (.aload_n 0, 1) := by decide +kernel
theorem dX11_chosenBy_125 : decode cX11_chosenBy 125 = .ok (.getfield 28, 3) := by decide +kernel
theorem dX11_chosenBy_128 : decode cX11_chosenBy 128 = .ok (.bipush 7, 2) := by decide +kernel
theorem dX11_chosenBy_130 : decode cX11_chosenBy 130 = .ok (.aload_n 0, 1) := by decide +kernel
theorem dX11_chosenBy_131 : decode cX11_chosenBy 131 = .ok (.getfield 9, 3) := by decide +kernel
theorem dX11_chosenBy_134 : decode cX11_chosenBy 134 = .ok (.iconst 5, 1) := by decide +kernel
theorem dX11_chosenBy_135 : decode cX11_chosenBy 135 = .ok (.iload_n 1, 1) := by decide +kernel
theorem dX11_chosenBy_136 : decode cX11_chosenBy 136 = .ok (.imul, 1) := by decide +kernel
theorem dX11_chosenBy_137 : decode cX11_chosenBy 137 = .ok (.iconst 4, 1) := by decide +kernel
theorem dX11_chosenBy_138 : decode cX11_chosenBy 138 = .ok (.iadd, 1) := by decide +kernel
theorem dX11_chosenBy_139 : decode cX11_chosenBy 139 = .ok (.iaload, 1) := by decide +kernel
theorem dX11_chosenBy_140 : decode cX11_chosenBy 140 = .ok (.iastore, 1) := by decide +kernel
theorem dX11_chosenBy_141 : decode cX11_chosenBy 141 = .ok (.aload_n 0, 1) := by decide +kernel
theorem dX11_chosenBy_142 : decode cX11_chosenBy 142 = .ok (.iconst 0, 1) := by decide +kernel
theorem dX11_chosenBy_143 : decode cX11_chosenBy 143 = .ok (.aload_n 0, 1) := by decide +kernel
theorem dX11_chosenBy_144 : decode cX11_chosenBy 144 = .ok (.getfield 101, 3) := by decide +kernel
theorem dX11_chosenBy_147 : decode cX11_chosenBy 147 = .ok (.invokevirtual 168, 3) := by decide +kernel
theorem dX11_chosenBy_150 : decode cX11_chosenBy 150 = .ok (.istore 4, 2) := by decide +kernel
theorem dX11_chosenBy_152 : decode cX11_chosenBy 152 = .ok (.iload 4, 2) := by decide +kernel
theorem dX11_chosenBy_154 : decode cX11_chosenBy 154 = .ok (.i2l, 1) := by decide +kernel
theorem dX11_chosenBy_155 : decode cX11_chosenBy 155 = .ok (.lconst 0, 1) := by decide +kernel
theorem dX11_chosenBy_156 : decode cX11_chosenBy 156 = .ok (.ldc2_w 295, 3) := by decide +kernel
theorem dX11_chosenBy_159 : decode cX11_chosenBy 159 = .ok (.invokestatic 113, 3) := by decide +kernel
theorem dX11_chosenBy_162 : decode cX11_chosenBy 162 = .ok (.ifCond .eq 15, 3) := by decide +kernel
theorem dX11_chosenBy_165 : decode cX11_chosenBy 165 = .ok (.aload_n 0, 1) := by decide +kernel
theorem dX11_chosenBy_166 : decode cX11_chosenBy 166 = .ok (.iload_n 1, 1) := by decide +kernel
theorem dX11_chosenBy_167 : decode cX11_chosenBy 167 = .ok (.iload 4, 2) := by decide +kernel
theorem dX11_chosenBy_169 : decode cX11_chosenBy 169 = .ok (.iload_n 2, 1) := by decide +kernel
theorem dX11_chosenBy_170 : decode cX11_chosenBy 170 = .ok (.iload_n 3, 1) := by decide +kernel
theorem dX11_chosenBy_171 : decode cX11_chosenBy 171 = .ok (.invokevirtual 279, 3) := by decide +kernel
theorem dX11_chosenBy_174 : decode cX11_chosenBy 174 = .ok (.ifCond .ne 17, 3) := by decide +kernel
theorem dX11_chosenBy_177 : decode cX11_chosenBy 177 = .ok (.iconst 1, 1) := by decide +kernel
theorem dX11_chosenBy_178 : decode cX11_chosenBy 178 = .ok (.istore 4, 2) := by decide +kernel
theorem dX11_chosenBy_180 : decode cX11_chosenBy 180 = .ok (.aload_n 0, 1) := by decide +kernel
theorem dX11_chosenBy_181 : decode cX11_chosenBy 181 = .ok (.iload_n 1, 1) := by decide +kernel
theorem dX11_chosenBy_182 : decode cX11_chosenBy 182 = .ok (.iload 4, 2) := by decide +kernel
theorem dX11_chosenBy_184 : decode cX11_chosenBy 184 = .ok (.iload_n 2, 1) := by decide +kernel
theorem dX11_chosenBy_185 : decode cX11_chosenBy 185 = .ok (.iload_n 3, 1) := by decide +kernel
theorem dX11_chosenBy_186 : decode cX11_chosenBy 186 = .ok (.invokevirtual 279, 3) := by decide +kernel
theorem dX11_chosenBy_189 : decode cX11_chosenBy 189 = .ok (.istore 5, 2) := by decide +kernel
theorem dX11_chosenBy_191 : decode cX11_chosenBy 191 = .ok (.iload 4, 2) := by decide +kernel
theorem dX11_chosenBy_193 : decode cX11_chosenBy 193 = .ok (.ireturn, 1) := by decide +kernel
