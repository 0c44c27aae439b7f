theorem dL_cell_0 : decode cL_cell 0 = .ok (.iload_n 1, 1) := by decide +kernel
theorem dL_cell_1 : decode cL_cell 1 = .ok (.aload_n 0, 1) := by decide +kernel
theorem dL_cell_2 : decode cL_cell 2 = .ok (.arraylength, 1) := by decide +kernel
theorem dL_cell_3 : decode cL_cell 3 = .ok (.if_icmp .ge 9, 3) := by decide +kernel
theorem dL_cell_6 : decode cL_cell 6 = .ok (.aload_n 0, 1) := by decide +kernel
theorem dL_cell_7 : decode cL_cell 7 = .ok (.iload_n 1, 1) := by decide +kernel
theorem dL_cell_8 : decode cL_cell 8 = .ok (.iaload, 1) := by decide +kernel
theorem dL_cell_9 : decode cL_cell 9 = .ok (.goto 15, 3) := by decide +kernel
theorem dL_cell_12 : decode cL_cell 12 = .ok (.sipush 7919, 3) := by decide +kernel
theorem dL_cell_15 : decode cL_cell 15 = .ok (.iload_n 1, 1) := by decide +kernel
theorem dL_cell_16 : decode cL_cell 16 = .ok (.iconst 3, 1) := by decide +kernel
theorem dL_cell_17 : decode cL_cell 17 = .ok (.iadd, 1) := by decide +kernel
theorem dL_cell_18 : decode cL_cell 18 = .ok (.imul, 1) := by decide +kernel
theorem dL_cell_19 : decode cL_cell 19 = .ok (.iload_n 1, 1) := by decide +kernel
theorem dL_cell_20 : decode cL_cell 20 = .ok (.bipush 11, 2) := by decide +kernel
theorem dL_cell_22 : decode cL_cell 22 = .ok (.iadd, 1) := by decide +kernel
theorem dL_cell_23 : decode cL_cell 23 = .ok (.imul, 1) := by decide +kernel
theorem dL_cell_24 : decode cL_cell 24 = .ok (.ireturn, 1) := by decide +kernel
theorem dL_low_0 : decode cL_low 0 = .ok (.iload_n 0, 1) := by decide +kernel
theorem dL_low_1 : decode cL_low 1 = .ok (.ldc 7, 2) := by decide +kernel
theorem dL_low_3 : decode cL_low 3 = .ok (.iand, 1) := by decide +kernel
theorem dL_low_4 : decode cL_low 4 = .ok (.iload_n 1, 1) := by decide +kernel
theorem dL_low_5 : decode cL_low 5 = .ok (.irem, 1) := by decide +kernel
theorem dL_low_6 : decode cL_low 6 = .ok (.ireturn, 1) := by decide +kernel
theorem dL_size_0 : decode cL_size 0 = .ok (.iload_n 0, 1) := by decide +kernel
theorem dL_size_1 : decode cL_size 1 = .ok (.ifCond .ge 8, 3) := by decide +kernel
theorem dL_size_4 : decode cL_size 4 = .ok (.iload_n 0, 1) := by decide +kernel
theorem dL_size_5 : decode cL_size 5 = .ok (.ineg, 1) := by decide +kernel
theorem dL_size_6 : decode cL_size 6 = .ok (.goto 4, 3) := by decide +kernel
theorem dL_size_9 : decode cL_size 9 = .ok (.iload_n 0, 1) := by decide +kernel
theorem dL_size_10 : decode cL_size 10 = .ok (.ireturn, 1) := by decide +kernel
theorem dL_bounded_0 : decode cL_bounded 0 = .ok (.iload_n 0, 1) := by decide +kernel
theorem dL_bounded_1 : decode cL_bounded 1 = .ok (.bipush (-40), 2) := by decide +kernel
theorem dL_bounded_3 : decode cL_bounded 3 = .ok (.if_icmp .ge 8, 3) := by decide +kernel
theorem dL_bounded_6 : decode cL_bounded 6 = .ok (.bipush (-40), 2) := by decide +kernel
theorem dL_bounded_8 : decode cL_bounded 8 = .ok (.goto 15, 3) := by decide +kernel
theorem dL_bounded_11 : decode cL_bounded 11 = .ok (.iload_n 0, 1) := by decide +kernel
theorem dL_bounded_12 : decode cL_bounded 12 = .ok (.bipush 40, 2) := by decide +kernel
theorem dL_bounded_14 : decode cL_bounded 14 = .ok (.if_icmp .le 8, 3) := by decide +kernel
theorem dL_bounded_17 : decode cL_bounded 17 = .ok (.bipush 40, 2) := by decide +kernel
theorem dL_bounded_19 : decode cL_bounded 19 = .ok (.goto 4, 3) := by decide +kernel
theorem dL_bounded_22 : decode cL_bounded 22 = .ok (.iload_n 0, 1) := by decide +kernel
theorem dL_bounded_23 : decode cL_bounded 23 = .ok (.ireturn, 1) := by decide +kernel
theorem dL_areDays_0 : decode cL_areDays 0 = .ok (.aload_n 0, 1) := by decide +kernel
theorem dL_areDays_1 : decode cL_areDays 1 = .ok (.iconst 1, 1) := by decide +kernel
theorem dL_areDays_2 : decode cL_areDays 2 = .ok (.invokevirtual 8, 3) := by decide +kernel
theorem dL_areDays_5 : decode cL_areDays 5 = .ok (.istore_n 1, 1) := by decide +kernel
theorem dL_areDays_6 : decode cL_areDays 6 = .ok (.iconst 0, 1) := by decide +kernel
theorem dL_areDays_7 : decode cL_areDays 7 = .ok (.istore_n 2, 1) := by decide +kernel
theorem dL_areDays_8 : decode cL_areDays 8 = .ok (.iconst 0, 1) := by decide +kernel
theorem dL_areDays_9 : decode cL_areDays 9 = .ok (.istore_n 3, 1) := by decide +kernel
theorem dL_areDays_10 : decode cL_areDays 10 = .ok (.iload_n 3, 1) := by decide +kernel
theorem dL_areDays_11 : decode cL_areDays 11 = .ok (.bipush 20, 2) := by decide +kernel
theorem dL_areDays_13 : decode cL_areDays 13 = .ok (.if_icmp .ge 330, 3) := by decide +kernel
theorem dL_areDays_16 : decode cL_areDays 16 = .ok (.aload_n 0, 1) := by decide +kernel
theorem dL_areDays_17 : decode cL_areDays 17 = .ok (.iload_n 3, 1) := by decide +kernel
theorem dL_areDays_18 : decode cL_areDays 18 = .ok (.iconst 0, 1) := by decide +kernel
theorem dL_areDays_19 : decode cL_areDays 19 = .ok (.invokevirtual 14, 3) := by decide +kernel
theorem dL_areDays_22 : decode cL_areDays 22 = .ok (.sipush 1000, 3) := by decide +kernel
theorem dL_areDays_25 : decode cL_areDays 25 = .ok (.isub, 1) := by decide +kernel
theorem dL_areDays_26 : decode cL_areDays 26 = .ok (.istore 4, 2) := by decide +kernel
theorem dL_areDays_28 : decode cL_areDays 28 = .ok (.iconst 0, 1) := by decide +kernel
theorem dL_areDays_29 : decode cL_areDays 29 = .ok (.istore 5, 2) := by decide +kernel
theorem dL_areDays_31 : decode cL_areDays 31 = .ok (.iload 5, 2) := by decide +kernel
theorem dL_areDays_33 : decode cL_areDays 33 = .ok (.aload_n 0, 1) := by decide +kernel
theorem dL_areDays_34 : decode cL_areDays 34 = .ok (.iconst 3, 1) := by decide +kernel
theorem dL_areDays_35 : decode cL_areDays 35 = .ok (.invokevirtual 8, 3) := by decide +kernel
theorem dL_areDays_38 : decode cL_areDays 38 = .ok (.if_icmp .ge 129, 3) := by decide +kernel
theorem dL_areDays_41 : decode cL_areDays 41 = .ok (.iload 5, 2) := by decide +kernel
theorem dL_areDays_43 : decode cL_areDays 43 = .ok (.iconst 5, 1) := by decide +kernel
theorem dL_areDays_44 : decode cL_areDays 44 = .ok (.if_icmp .ge 123, 3) := by decide +kernel
theorem dL_areDays_47 : decode cL_areDays 47 = .ok (.aload_n 0, 1) := by decide +kernel
theorem dL_areDays_48 : decode cL_areDays 48 = .ok (.iload 5, 2) := by decide +kernel
theorem dL_areDays_50 : decode cL_areDays 50 = .ok (.iconst 0, 1) := by decide +kernel
theorem dL_areDays_51 : decode cL_areDays 51 = .ok (.invokevirtual 18, 3) := by decide +kernel
theorem dL_areDays_54 : decode cL_areDays 54 = .ok (.istore 6, 2) := by decide +kernel
theorem dL_areDays_56 : decode cL_areDays 56 = .ok (.iload 6, 2) := by decide +kernel
theorem dL_areDays_58 : decode cL_areDays 58 = .ok (.iload_n 1, 1) := by decide +kernel
theorem dL_areDays_59 : decode cL_areDays 59 = .ok (.if_icmp .ge 32, 3) := by decide +kernel
theorem dL_areDays_62 : decode cL_areDays 62 = .ok (.aload_n 0, 1) := by decide +kernel
theorem dL_areDays_63 : decode cL_areDays 63 = .ok (.iload 6, 2) := by decide +kernel
theorem dL_areDays_65 : decode cL_areDays 65 = .ok (.iconst 2, 1) := by decide +kernel
theorem dL_areDays_66 : decode cL_areDays 66 = .ok (.invokevirtual 14, 3) := by decide +kernel
theorem dL_areDays_69 : decode cL_areDays 69 = .ok (.sipush 1000, 3) := by decide +kernel
theorem dL_areDays_72 : decode cL_areDays 72 = .ok (.isub, 1) := by decide +kernel
theorem dL_areDays_73 : decode cL_areDays 73 = .ok (.aload_n 0, 1) := by decide +kernel
theorem dL_areDays_74 : decode cL_areDays 74 = .ok (.iload 5, 2) := by decide +kernel
theorem dL_areDays_76 : decode cL_areDays 76 = .ok (.iconst 1, 1) := by decide +kernel
theorem dL_areDays_77 : decode cL_areDays 77 = .ok (.invokevirtual 18, 3) := by decide +kernel
theorem dL_areDays_80 : decode cL_areDays 80 = .ok (.sipush 1000, 3) := by decide +kernel
theorem dL_areDays_83 : decode cL_areDays 83 = .ok (.isub, 1) := by decide +kernel
theorem dL_areDays_84 : decode cL_areDays 84 = .ok (.if_icmp .gt 7, 3) := by decide +kernel
theorem dL_areDays_87 : decode cL_areDays 87 = .ok (.iconst 1, 1) := by decide +kernel
theorem dL_areDays_88 : decode cL_areDays 88 = .ok (.goto 4, 3) := by decide +kernel
theorem dL_areDays_91 : decode cL_areDays 91 = .ok (.iconst 0, 1) := by decide +kernel
theorem dL_areDays_92 : decode cL_areDays 92 = .ok (.istore 7, 2) := by decide +kernel
theorem dL_areDays_94 : decode cL_areDays 94 = .ok (.aload_n 0, 1) := by decide +kernel
theorem dL_areDays_95 : decode cL_areDays 95 = .ok (.iload 5, 2) := by decide +kernel
theorem dL_areDays_97 : decode cL_areDays 97 = .ok (.iconst 4, 1) := by decide +kernel
theorem dL_areDays_98 : decode cL_areDays 98 = .ok (.invokevirtual 18, 3) := by decide +kernel
theorem dL_areDays_101 : decode cL_areDays 101 = .ok (.iload 7, 2) := by decide +kernel
theorem dL_areDays_103 : decode cL_areDays 103 = .ok (.ifCond .eq 7, 3) := by decide +kernel
theorem dL_areDays_106 : decode cL_areDays 106 = .ok (.iconst 1, 1) := by decide +kernel
theorem dL_areDays_107 : decode cL_areDays 107 = .ok (.goto 4, 3) := by decide +kernel
theorem dL_areDays_110 : decode cL_areDays 110 = .ok (.iconst 0, 1) := by decide +kernel
theorem dL_areDays_111 : decode cL_areDays 111 = .ok (.if_icmp .eq 5, 3) := by decide +kernel
theorem dL_areDays_114 : decode cL_areDays 114 = .ok (.iconst 0, 1) := by decide +kernel
theorem dL_areDays_115 : decode cL_areDays 115 = .ok (.ireturn, 1) := by decide +kernel
theorem dL_areDays_116 : decode cL_areDays 116 = .ok (.iload 4, 2) := by decide +kernel
theorem dL_areDays_118 : decode cL_areDays 118 = .ok (.iload 7, 2) := by decide +kernel
theorem dL_areDays_120 : decode cL_areDays 120 = .ok (.ifCond .eq 37, 3) := by decide +kernel
theorem dL_areDays_123 : decode cL_areDays 123 = .ok (.iload_n 3, 1) := by decide +kernel
theorem dL_areDays_124 : decode cL_areDays 124 = .ok (.iload 6, 2) := by decide +kernel
theorem dL_areDays_126 : decode cL_areDays 126 = .ok (.if_icmp .le 31, 3) := by decide +kernel
theorem dL_areDays_129 : decode cL_areDays 129 = .ok (.iload_n 3, 1) := by decide +kernel
theorem dL_areDays_130 : decode cL_areDays 130 = .ok (.iload 6, 2) := by decide +kernel
theorem dL_areDays_132 : decode cL_areDays 132 = .ok (.aload_n 0, 1) := by decide +kernel
theorem dL_areDays_133 : decode cL_areDays 133 = .ok (.iload 5, 2) := by decide +kernel
theorem dL_areDays_135 : decode cL_areDays 135 = .ok (.iconst 3, 1) := by decide +kernel
theorem dL_areDays_136 : decode cL_areDays 136 = .ok (.invokevirtual 18, 3) := by decide +kernel
theorem dL_areDays_139 : decode cL_areDays 139 = .ok (.iadd, 1) := by decide +kernel
theorem dL_areDays_140 : decode cL_areDays 140 = .ok (.if_icmp .gt 17, 3) := by decide +kernel
theorem dL_areDays_143 : decode cL_areDays 143 = .ok (.aload_n 0, 1) := by decide +kernel
theorem dL_areDays_144 : decode cL_areDays 144 = .ok (.iload 5, 2) := by decide +kernel
theorem dL_areDays_146 : decode cL_areDays 146 = .ok (.iconst 2, 1) := by decide +kernel
theorem dL_areDays_147 : decode cL_areDays 147 = .ok (.invokevirtual 18, 3) := by decide +kernel
theorem dL_areDays_150 : decode cL_areDays 150 = .ok (.sipush 1000, 3) := by decide +kernel
theorem dL_areDays_153 : decode cL_areDays 153 = .ok (.isub, 1) := by decide +kernel
theorem dL_areDays_154 : decode cL_areDays 154 = .ok (.goto 4, 3) := by decide +kernel
theorem dL_areDays_157 : decode cL_areDays 157 = .ok (.iconst 0, 1) := by decide +kernel
theorem dL_areDays_158 : decode cL_areDays 158 = .ok (.iadd, 1) := by decide +kernel
theorem dL_areDays_159 : decode cL_areDays 159 = .ok (.istore 4, 2) := by decide +kernel
theorem dL_areDays_161 : decode cL_areDays 161 = .ok (.iinc 5 1, 3) := by decide +kernel
theorem dL_areDays_164 : decode cL_areDays 164 = .ok (.goto (-133), 3) := by decide +kernel
theorem dL_areDays_167 : decode cL_areDays 167 = .ok (.iload_n 3, 1) := by decide +kernel
theorem dL_areDays_168 : decode cL_areDays 168 = .ok (.iload_n 1, 1) := by decide +kernel
theorem dL_areDays_169 : decode cL_areDays 169 = .ok (.if_icmp .ge 7, 3) := by decide +kernel
theorem dL_areDays_172 : decode cL_areDays 172 = .ok (.iconst 1, 1) := by decide +kernel
theorem dL_areDays_173 : decode cL_areDays 173 = .ok (.goto 4, 3) := by decide +kernel
theorem dL_areDays_176 : decode cL_areDays 176 = .ok (.iconst 0, 1) := by decide +kernel
theorem dL_areDays_177 : decode cL_areDays 177 = .ok (.istore 5, 2) := by decide +kernel
theorem dL_areDays_179 : decode cL_areDays 179 = .ok (.aload_n 0, 1) := by decide +kernel
theorem dL_areDays_180 : decode cL_areDays 180 = .ok (.iload_n 3, 1) := by decide +kernel
theorem dL_areDays_181 : decode cL_areDays 181 = .ok (.iconst 1, 1) := by decide +kernel
theorem dL_areDays_182 : decode cL_areDays 182 = .ok (.invokevirtual 14, 3) := by decide +kernel
theorem dL_areDays_185 : decode cL_areDays 185 = .ok (.sipush 1000, 3) := by decide +kernel
theorem dL_areDays_188 : decode cL_areDays 188 = .ok (.isub, 1) := by decide +kernel
theorem dL_areDays_189 : decode cL_areDays 189 = .ok (.istore 6, 2) := by decide +kernel
theorem dL_areDays_191 : decode cL_areDays 191 = .ok (.aload_n 0, 1) := by decide +kernel
theorem dL_areDays_192 : decode cL_areDays 192 = .ok (.iload_n 3, 1) := by decide +kernel
theorem dL_areDays_193 : decode cL_areDays 193 = .ok (.iconst 2, 1) := by decide +kernel
theorem dL_areDays_194 : decode cL_areDays 194 = .ok (.invokevirtual 14, 3) := by decide +kernel
theorem dL_areDays_197 : decode cL_areDays 197 = .ok (.istore 7, 2) := by decide +kernel
theorem dL_areDays_199 : decode cL_areDays 199 = .ok (.iload 5, 2) := by decide +kernel
theorem dL_areDays_201 : decode cL_areDays 201 = .ok (.ifCond .eq 41, 3) := by decide +kernel
theorem dL_areDays_204 : decode cL_areDays 204 = .ok (.iload 7, 2) := by decide +kernel
theorem dL_areDays_206 : decode cL_areDays 206 = .ok (.sipush 960, 3) := by decide +kernel
theorem dL_areDays_209 : decode cL_areDays 209 = .ok (.if_icmp .lt 29, 3) := by decide +kernel
theorem dL_areDays_212 : decode cL_areDays 212 = .ok (.iload 7, 2) := by decide +kernel
theorem dL_areDays_214 : decode cL_areDays 214 = .ok (.sipush 1040, 3) := by decide +kernel
theorem dL_areDays_217 : decode cL_areDays 217 = .ok (.if_icmp .gt 21, 3) := by decide +kernel
theorem dL_areDays_220 : decode cL_areDays 220 = .ok (.aload_n 0, 1) := by decide +kernel
theorem dL_areDays_221 : decode cL_areDays 221 = .ok (.iload_n 3, 1) := by decide +kernel
theorem dL_areDays_222 : decode cL_areDays 222 = .ok (.iconst 3, 1) := by decide +kernel
theorem dL_areDays_223 : decode cL_areDays 223 = .ok (.invokevirtual 14, 3) := by decide +kernel
theorem dL_areDays_226 : decode cL_areDays 226 = .ok (.iload 7, 2) := by decide +kernel
theorem dL_areDays_228 : decode cL_areDays 228 = .ok (.iload 6, 2) := by decide +kernel
theorem dL_areDays_230 : decode cL_areDays 230 = .ok (.isub, 1) := by decide +kernel
theorem dL_areDays_231 : decode cL_areDays 231 = .ok (.if_icmp .ne 7, 3) := by decide +kernel
theorem dL_areDays_234 : decode cL_areDays 234 = .ok (.iconst 1, 1) := by decide +kernel
theorem dL_areDays_235 : decode cL_areDays 235 = .ok (.goto 40, 3) := by decide +kernel
theorem dL_areDays_238 : decode cL_areDays 238 = .ok (.iconst 0, 1) := by decide +kernel
theorem dL_areDays_239 : decode cL_areDays 239 = .ok (.goto 36, 3) := by decide +kernel
theorem dL_areDays_242 : decode cL_areDays 242 = .ok (.iload 7, 2) := by decide +kernel
theorem dL_areDays_244 : decode cL_areDays 244 = .ok (.bipush (-5), 2) := by decide +kernel
theorem dL_areDays_246 : decode cL_areDays 246 = .ok (.if_icmp .ne 28, 3) := by decide +kernel
theorem dL_areDays_249 : decode cL_areDays 249 = .ok (.aload_n 0, 1) := by decide +kernel
theorem dL_areDays_250 : decode cL_areDays 250 = .ok (.iload_n 3, 1) := by decide +kernel
theorem dL_areDays_251 : decode cL_areDays 251 = .ok (.iconst 3, 1) := by decide +kernel
theorem dL_areDays_252 : decode cL_areDays 252 = .ok (.invokevirtual 14, 3) := by decide +kernel
theorem dL_areDays_255 : decode cL_areDays 255 = .ok (.bipush (-5), 2) := by decide +kernel
theorem dL_areDays_257 : decode cL_areDays 257 = .ok (.if_icmp .ne 17, 3) := by decide +kernel
theorem dL_areDays_260 : decode cL_areDays 260 = .ok (.iload 6, 2) := by decide +kernel
theorem dL_areDays_262 : decode cL_areDays 262 = .ok (.iload 4, 2) := by decide +kernel
theorem dL_areDays_264 : decode cL_areDays 264 = .ok (.invokestatic 21, 3) := by decide +kernel
theorem dL_areDays_267 : decode cL_areDays 267 = .ok (.if_icmp .ne 7, 3) := by decide +kernel
theorem dL_areDays_270 : decode cL_areDays 270 = .ok (.iconst 1, 1) := by decide +kernel
theorem dL_areDays_271 : decode cL_areDays 271 = .ok (.goto 4, 3) := by decide +kernel
theorem dL_areDays_274 : decode cL_areDays 274 = .ok (.iconst 0, 1) := by decide +kernel
theorem dL_areDays_275 : decode cL_areDays 275 = .ok (.istore 8, 2) := by decide +kernel
theorem dL_areDays_277 : decode cL_areDays 277 = .ok (.iload 8, 2) := by decide +kernel
theorem dL_areDays_279 : decode cL_areDays 279 = .ok (.ifCond .eq 32, 3) := by decide +kernel
theorem dL_areDays_282 : decode cL_areDays 282 = .ok (.aload_n 0, 1) := by decide +kernel
theorem dL_areDays_283 : decode cL_areDays 283 = .ok (.iload_n 3, 1) := by decide +kernel
theorem dL_areDays_284 : decode cL_areDays 284 = .ok (.iconst 4, 1) := by decide +kernel
theorem dL_areDays_285 : decode cL_areDays 285 = .ok (.invokevirtual 14, 3) := by decide +kernel
theorem dL_areDays_288 : decode cL_areDays 288 = .ok (.iload 6, 2) := by decide +kernel
theorem dL_areDays_290 : decode cL_areDays 290 = .ok (.aload_n 0, 1) := by decide +kernel
theorem dL_areDays_291 : decode cL_areDays 291 = .ok (.bipush 14, 2) := by decide +kernel
theorem dL_areDays_293 : decode cL_areDays 293 = .ok (.invokevirtual 8, 3) := by decide +kernel
theorem dL_areDays_296 : decode cL_areDays 296 = .ok (.sipush 1000, 3) := by decide +kernel
theorem dL_areDays_299 : decode cL_areDays 299 = .ok (.isub, 1) := by decide +kernel
theorem dL_areDays_300 : decode cL_areDays 300 = .ok (.if_icmp .gt 7, 3) := by decide +kernel
theorem dL_areDays_303 : decode cL_areDays 303 = .ok (.iconst 1, 1) := by decide +kernel
theorem dL_areDays_304 : decode cL_areDays 304 = .ok (.goto 4, 3) := by decide +kernel
theorem dL_areDays_307 : decode cL_areDays 307 = .ok (.iconst 0, 1) := by decide +kernel
theorem dL_areDays_308 : decode cL_areDays 308 = .ok (.if_icmp .eq 5, 3) := by decide +kernel
theorem dL_areDays_311 : decode cL_areDays 311 = .ok (.iconst 0, 1) := by decide +kernel
theorem dL_areDays_312 : decode cL_areDays 312 = .ok (.ireturn, 1) := by decide +kernel
theorem dL_areDays_313 : decode cL_areDays 313 = .ok (.iload_n 2, 1) := by decide +kernel
theorem dL_areDays_314 : decode cL_areDays 314 = .ok (.iload 5, 2) := by decide +kernel
theorem dL_areDays_316 : decode cL_areDays 316 = .ok (.ifCond .eq 18, 3) := by decide +kernel
theorem dL_areDays_319 : decode cL_areDays 319 = .ok (.iload 7, 2) := by decide +kernel
theorem dL_areDays_321 : decode cL_areDays 321 = .ok (.sipush 1000, 3) := by decide +kernel
theorem dL_areDays_324 : decode cL_areDays 324 = .ok (.isub, 1) := by decide +kernel
theorem dL_areDays_325 : decode cL_areDays 325 = .ok (.iload 6, 2) := by decide +kernel
theorem dL_areDays_327 : decode cL_areDays 327 = .ok (.isub, 1) := by decide +kernel
theorem dL_areDays_328 : decode cL_areDays 328 = .ok (.invokestatic 26, 3) := by decide +kernel
theorem dL_areDays_331 : decode cL_areDays 331 = .ok (.goto 4, 3) := by decide +kernel
theorem dL_areDays_334 : decode cL_areDays 334 = .ok (.iconst 0, 1) := by decide +kernel
theorem dL_areDays_335 : decode cL_areDays 335 = .ok (.iadd, 1) := by decide +kernel
theorem dL_areDays_336 : decode cL_areDays 336 = .ok (.istore_n 2, 1) := by decide +kernel
theorem dL_areDays_337 : decode cL_areDays 337 = .ok (.iinc 3 1, 3) := by decide +kernel
theorem dL_areDays_340 : decode cL_areDays 340 = .ok (.goto (-330), 3) := by decide +kernel
theorem dL_areDays_343 : decode cL_areDays 343 = .ok (.aload_n 0, 1) := by decide +kernel
theorem dL_areDays_344 : decode cL_areDays 344 = .ok (.bipush 7, 2) := by decide +kernel
theorem dL_areDays_346 : decode cL_areDays 346 = .ok (.invokevirtual 8, 3) := by decide +kernel
theorem dL_areDays_349 : decode cL_areDays 349 = .ok (.iload_n 2, 1) := by decide +kernel
theorem dL_areDays_350 : decode cL_areDays 350 = .ok (.if_icmp .ne 43, 3) := by decide +kernel
theorem dL_areDays_353 : decode cL_areDays 353 = .ok (.iload_n 1, 1) := by decide +kernel
theorem dL_areDays_354 : decode cL_areDays 354 = .ok (.ifCond .lt 39, 3) := by decide +kernel
theorem dL_areDays_357 : decode cL_areDays 357 = .ok (.iload_n 1, 1) := by decide +kernel
theorem dL_areDays_358 : decode cL_areDays 358 = .ok (.bipush 20, 2) := by decide +kernel
theorem dL_areDays_360 : decode cL_areDays 360 = .ok (.if_icmp .ge 33, 3) := by decide +kernel
theorem dL_areDays_363 : decode cL_areDays 363 = .ok (.aload_n 0, 1) := by decide +kernel
theorem dL_areDays_364 : decode cL_areDays 364 = .ok (.iconst 2, 1) := by decide +kernel
theorem dL_areDays_365 : decode cL_areDays 365 = .ok (.invokevirtual 8, 3) := by decide +kernel
theorem dL_areDays_368 : decode cL_areDays 368 = .ok (.aload_n 0, 1) := by decide +kernel
theorem dL_areDays_369 : decode cL_areDays 369 = .ok (.iconst 0, 1) := by decide +kernel
theorem dL_areDays_370 : decode cL_areDays 370 = .ok (.invokevirtual 8, 3) := by decide +kernel
theorem dL_areDays_373 : decode cL_areDays 373 = .ok (.iconst 4, 1) := by decide +kernel
theorem dL_areDays_374 : decode cL_areDays 374 = .ok (.if_icmp .ge 11, 3) := by decide +kernel
theorem dL_areDays_377 : decode cL_areDays 377 = .ok (.aload_n 0, 1) := by decide +kernel
theorem dL_areDays_378 : decode cL_areDays 378 = .ok (.iconst 0, 1) := by decide +kernel
theorem dL_areDays_379 : decode cL_areDays 379 = .ok (.invokevirtual 8, 3) := by decide +kernel
theorem dL_areDays_382 : decode cL_areDays 382 = .ok (.goto 4, 3) := by decide +kernel
theorem dL_areDays_385 : decode cL_areDays 385 = .ok (.iconst 4, 1) := by decide +kernel
theorem dL_areDays_386 : decode cL_areDays 386 = .ok (.if_icmp .ne 7, 3) := by decide +kernel
theorem dL_areDays_389 : decode cL_areDays 389 = .ok (.iconst 1, 1) := by decide +kernel
theorem dL_areDays_390 : decode cL_areDays 390 = .ok (.goto 4, 3) := by decide +kernel
theorem dL_areDays_393 : decode cL_areDays 393 = .ok (.iconst 0, 1) := by decide +kernel
theorem dL_areDays_394 : decode cL_areDays 394 = .ok (.ireturn, 1) := by decide +kernel
theorem dL_areYears_0 : decode cL_areYears 0 = .ok (.aload_n 0, 1) := by decide +kernel
theorem dL_areYears_1 : decode cL_areYears 1 = .ok (.bipush 12, 2) := by decide +kernel
theorem dL_areYears_3 : decode cL_areYears 3 = .ok (.invokevirtual 8, 3) := by decide +kernel
theorem dL_areYears_6 : decode cL_areYears 6 = .ok (.sipush 1000, 3) := by decide +kernel
theorem dL_areYears_9 : decode cL_areYears 9 = .ok (.isub, 1) := by decide +kernel
theorem dL_areYears_10 : decode cL_areYears 10 = .ok (.istore_n 2, 1) := by decide +kernel
theorem dL_areYears_11 : decode cL_areYears 11 = .ok (.iload_n 1, 1) := by decide +kernel
theorem dL_areYears_12 : decode cL_areYears 12 = .ok (.aload_n 0, 1) := by decide +kernel
theorem dL_areYears_13 : decode cL_areYears 13 = .ok (.iconst 2, 1) := by decide +kernel
theorem dL_areYears_14 : decode cL_areYears 14 = .ok (.invokevirtual 8, 3) := by decide +kernel
theorem dL_areYears_17 : decode cL_areYears 17 = .ok (.if_icmp .lt 60, 3) := by decide +kernel
theorem dL_areYears_20 : decode cL_areYears 20 = .ok (.aload_n 0, 1) := by decide +kernel
theorem dL_areYears_21 : decode cL_areYears 21 = .ok (.iload_n 1, 1) := by decide +kernel
theorem dL_areYears_22 : decode cL_areYears 22 = .ok (.iconst 0, 1) := by decide +kernel
theorem dL_areYears_23 : decode cL_areYears 23 = .ok (.iconst 0, 1) := by decide +kernel
theorem dL_areYears_24 : decode cL_areYears 24 = .ok (.invokevirtual 29, 3) := by decide +kernel
theorem dL_areYears_27 : decode cL_areYears 27 = .ok (.iconst (-1), 1) := by decide +kernel
theorem dL_areYears_28 : decode cL_areYears 28 = .ok (.if_icmp .ne 47, 3) := by decide +kernel
theorem dL_areYears_31 : decode cL_areYears 31 = .ok (.aload_n 0, 1) := by decide +kernel
theorem dL_areYears_32 : decode cL_areYears 32 = .ok (.iload_n 1, 1) := by decide +kernel
theorem dL_areYears_33 : decode cL_areYears 33 = .ok (.iconst 0, 1) := by decide +kernel
theorem dL_areYears_34 : decode cL_areYears 34 = .ok (.iconst 1, 1) := by decide +kernel
theorem dL_areYears_35 : decode cL_areYears 35 = .ok (.invokevirtual 33, 3) := by decide +kernel
theorem dL_areYears_38 : decode cL_areYears 38 = .ok (.iconst (-1), 1) := by decide +kernel
theorem dL_areYears_39 : decode cL_areYears 39 = .ok (.if_icmp .ne 36, 3) := by decide +kernel
theorem dL_areYears_42 : decode cL_areYears 42 = .ok (.aload_n 0, 1) := by decide +kernel
theorem dL_areYears_43 : decode cL_areYears 43 = .ok (.iconst 2, 1) := by decide +kernel
theorem dL_areYears_44 : decode cL_areYears 44 = .ok (.invokevirtual 8, 3) := by decide +kernel
theorem dL_areYears_47 : decode cL_areYears 47 = .ok (.ifCond .gt 24, 3) := by decide +kernel
theorem dL_areYears_50 : decode cL_areYears 50 = .ok (.aload_n 0, 1) := by decide +kernel
theorem dL_areYears_51 : decode cL_areYears 51 = .ok (.bipush 8, 2) := by decide +kernel
theorem dL_areYears_53 : decode cL_areYears 53 = .ok (.invokevirtual 8, 3) := by decide +kernel
theorem dL_areYears_56 : decode cL_areYears 56 = .ok (.bipush (-5), 2) := by decide +kernel
theorem dL_areYears_58 : decode cL_areYears 58 = .ok (.if_icmp .ne 17, 3) := by decide +kernel
theorem dL_areYears_61 : decode cL_areYears 61 = .ok (.aload_n 0, 1) := by decide +kernel
theorem dL_areYears_62 : decode cL_areYears 62 = .ok (.iconst 0, 1) := by decide +kernel
theorem dL_areYears_63 : decode cL_areYears 63 = .ok (.invokevirtual 36, 3) := by decide +kernel
theorem dL_areYears_66 : decode cL_areYears 66 = .ok (.bipush (-5), 2) := by decide +kernel
theorem dL_areYears_68 : decode cL_areYears 68 = .ok (.if_icmp .ne 7, 3) := by decide +kernel
theorem dL_areYears_71 : decode cL_areYears 71 = .ok (.iconst 1, 1) := by decide +kernel
theorem dL_areYears_72 : decode cL_areYears 72 = .ok (.goto 4, 3) := by decide +kernel
theorem dL_areYears_75 : decode cL_areYears 75 = .ok (.iconst 0, 1) := by decide +kernel
theorem dL_areYears_76 : decode cL_areYears 76 = .ok (.ireturn, 1) := by decide +kernel
theorem dL_areYears_77 : decode cL_areYears 77 = .ok (.iconst 0, 1) := by decide +kernel
theorem dL_areYears_78 : decode cL_areYears 78 = .ok (.istore_n 3, 1) := by decide +kernel
theorem dL_areYears_79 : decode cL_areYears 79 = .ok (.iconst 0, 1) := by decide +kernel
theorem dL_areYears_80 : decode cL_areYears 80 = .ok (.istore 4, 2) := by decide +kernel
theorem dL_areYears_82 : decode cL_areYears 82 = .ok (.iload 4, 2) := by decide +kernel
theorem dL_areYears_84 : decode cL_areYears 84 = .ok (.bipush 20, 2) := by decide +kernel
theorem dL_areYears_86 : decode cL_areYears 86 = .ok (.if_icmp .ge 210, 3) := by decide +kernel
theorem dL_areYears_89 : decode cL_areYears 89 = .ok (.iconst 0, 1) := by decide +kernel
theorem dL_areYears_90 : decode cL_areYears 90 = .ok (.istore 5, 2) := by decide +kernel
theorem dL_areYears_92 : decode cL_areYears 92 = .ok (.iconst 0, 1) := by decide +kernel
theorem dL_areYears_93 : decode cL_areYears 93 = .ok (.istore 6, 2) := by decide +kernel
theorem dL_areYears_95 : decode cL_areYears 95 = .ok (.iconst 0, 1) := by decide +kernel
theorem dL_areYears_96 : decode cL_areYears 96 = .ok (.istore 7, 2) := by decide +kernel
theorem dL_areYears_98 : decode cL_areYears 98 = .ok (.iload 7, 2) := by decide +kernel
theorem dL_areYears_100 : decode cL_areYears 100 = .ok (.bipush 20, 2) := by decide +kernel
theorem dL_areYears_102 : decode cL_areYears 102 = .ok (.if_icmp .ge 69, 3) := by decide +kernel
theorem dL_areYears_105 : decode cL_areYears 105 = .ok (.iload 7, 2) := by decide +kernel
theorem dL_areYears_107 : decode cL_areYears 107 = .ok (.iload 4, 2) := by decide +kernel
theorem dL_areYears_109 : decode cL_areYears 109 = .ok (.isub, 1) := by decide +kernel
theorem dL_areYears_110 : decode cL_areYears 110 = .ok (.invokestatic 26, 3) := by decide +kernel
theorem dL_areYears_113 : decode cL_areYears 113 = .ok (.iload_n 2, 1) := by decide +kernel
theorem dL_areYears_114 : decode cL_areYears 114 = .ok (.if_icmp .gt 7, 3) := by decide +kernel
theorem dL_areYears_117 : decode cL_areYears 117 = .ok (.iconst 1, 1) := by decide +kernel
theorem dL_areYears_118 : decode cL_areYears 118 = .ok (.goto 4, 3) := by decide +kernel
theorem dL_areYears_121 : decode cL_areYears 121 = .ok (.iconst 0, 1) := by decide +kernel
theorem dL_areYears_122 : decode cL_areYears 122 = .ok (.istore 8, 2) := by decide +kernel
theorem dL_areYears_124 : decode cL_areYears 124 = .ok (.iload 5, 2) := by decide +kernel
theorem dL_areYears_126 : decode cL_areYears 126 = .ok (.iload 8, 2) := by decide +kernel
theorem dL_areYears_128 : decode cL_areYears 128 = .ok (.ifCond .eq 18, 3) := by decide +kernel
theorem dL_areYears_131 : decode cL_areYears 131 = .ok (.aload_n 0, 1) := by decide +kernel
theorem dL_areYears_132 : decode cL_areYears 132 = .ok (.iload_n 1, 1) := by decide +kernel
theorem dL_areYears_133 : decode cL_areYears 133 = .ok (.iload 7, 2) := by decide +kernel
theorem dL_areYears_135 : decode cL_areYears 135 = .ok (.iconst 1, 1) := by decide +kernel
theorem dL_areYears_136 : decode cL_areYears 136 = .ok (.invokevirtual 29, 3) := by decide +kernel
theorem dL_areYears_139 : decode cL_areYears 139 = .ok (.sipush 1000, 3) := by decide +kernel
theorem dL_areYears_142 : decode cL_areYears 142 = .ok (.isub, 1) := by decide +kernel
theorem dL_areYears_143 : decode cL_areYears 143 = .ok (.goto 4, 3) := by decide +kernel
theorem dL_areYears_146 : decode cL_areYears 146 = .ok (.iconst 0, 1) := by decide +kernel
theorem dL_areYears_147 : decode cL_areYears 147 = .ok (.iadd, 1) := by decide +kernel
theorem dL_areYears_148 : decode cL_areYears 148 = .ok (.istore 5, 2) := by decide +kernel
theorem dL_areYears_150 : decode cL_areYears 150 = .ok (.iload 6, 2) := by decide +kernel
theorem dL_areYears_152 : decode cL_areYears 152 = .ok (.iload 8, 2) := by decide +kernel
theorem dL_areYears_154 : decode cL_areYears 154 = .ok (.ifCond .eq 7, 3) := by decide +kernel
theorem dL_areYears_157 : decode cL_areYears 157 = .ok (.iconst 1, 1) := by decide +kernel
theorem dL_areYears_158 : decode cL_areYears 158 = .ok (.goto 4, 3) := by decide +kernel
theorem dL_areYears_161 : decode cL_areYears 161 = .ok (.iconst 0, 1) := by decide +kernel
theorem dL_areYears_162 : decode cL_areYears 162 = .ok (.iadd, 1) := by decide +kernel
theorem dL_areYears_163 : decode cL_areYears 163 = .ok (.istore 6, 2) := by decide +kernel
theorem dL_areYears_165 : decode cL_areYears 165 = .ok (.iinc 7 1, 3) := by decide +kernel
theorem dL_areYears_168 : decode cL_areYears 168 = .ok (.goto (-70), 3) := by decide +kernel
theorem dL_areYears_171 : decode cL_areYears 171 = .ok (.iload_n 3, 1) := by decide +kernel
theorem dL_areYears_172 : decode cL_areYears 172 = .ok (.aload_n 0, 1) := by decide +kernel
theorem dL_areYears_173 : decode cL_areYears 173 = .ok (.iload_n 1, 1) := by decide +kernel
theorem dL_areYears_174 : decode cL_areYears 174 = .ok (.iload 4, 2) := by decide +kernel
theorem dL_areYears_176 : decode cL_areYears 176 = .ok (.iconst 1, 1) := by decide +kernel
theorem dL_areYears_177 : decode cL_areYears 177 = .ok (.invokevirtual 29, 3) := by decide +kernel
theorem dL_areYears_180 : decode cL_areYears 180 = .ok (.sipush 1000, 3) := by decide +kernel
theorem dL_areYears_183 : decode cL_areYears 183 = .ok (.isub, 1) := by decide +kernel
theorem dL_areYears_184 : decode cL_areYears 184 = .ok (.invokestatic 26, 3) := by decide +kernel
theorem dL_areYears_187 : decode cL_areYears 187 = .ok (.iadd, 1) := by decide +kernel
theorem dL_areYears_188 : decode cL_areYears 188 = .ok (.istore_n 3, 1) := by decide +kernel
theorem dL_areYears_189 : decode cL_areYears 189 = .ok (.aload_n 0, 1) := by decide +kernel
theorem dL_areYears_190 : decode cL_areYears 190 = .ok (.iload_n 1, 1) := by decide +kernel
theorem dL_areYears_191 : decode cL_areYears 191 = .ok (.iload 4, 2) := by decide +kernel
theorem dL_areYears_193 : decode cL_areYears 193 = .ok (.iconst 0, 1) := by decide +kernel
theorem dL_areYears_194 : decode cL_areYears 194 = .ok (.invokevirtual 29, 3) := by decide +kernel
theorem dL_areYears_197 : decode cL_areYears 197 = .ok (.sipush 1000, 3) := by decide +kernel
theorem dL_areYears_200 : decode cL_areYears 200 = .ok (.isub, 1) := by decide +kernel
theorem dL_areYears_201 : decode cL_areYears 201 = .ok (.istore 7, 2) := by decide +kernel
theorem dL_areYears_203 : decode cL_areYears 203 = .ok (.iload 7, 2) := by decide +kernel
theorem dL_areYears_205 : decode cL_areYears 205 = .ok (.aload_n 0, 1) := by decide +kernel
theorem dL_areYears_206 : decode cL_areYears 206 = .ok (.iload_n 1, 1) := by decide +kernel
theorem dL_areYears_207 : decode cL_areYears 207 = .ok (.iload 4, 2) := by decide +kernel
theorem dL_areYears_209 : decode cL_areYears 209 = .ok (.iconst 1, 1) := by decide +kernel
theorem dL_areYears_210 : decode cL_areYears 210 = .ok (.invokevirtual 29, 3) := by decide +kernel
theorem dL_areYears_213 : decode cL_areYears 213 = .ok (.sipush 1000, 3) := by decide +kernel
theorem dL_areYears_216 : decode cL_areYears 216 = .ok (.isub, 1) := by decide +kernel
theorem dL_areYears_217 : decode cL_areYears 217 = .ok (.isub, 1) := by decide +kernel
theorem dL_areYears_218 : decode cL_areYears 218 = .ok (.istore 8, 2) := by decide +kernel
theorem dL_areYears_220 : decode cL_areYears 220 = .ok (.aload_n 0, 1) := by decide +kernel
theorem dL_areYears_221 : decode cL_areYears 221 = .ok (.iload_n 1, 1) := by decide +kernel
theorem dL_areYears_222 : decode cL_areYears 222 = .ok (.iload 4, 2) := by decide +kernel
theorem dL_areYears_224 : decode cL_areYears 224 = .ok (.iconst 0, 1) := by decide +kernel
theorem dL_areYears_225 : decode cL_areYears 225 = .ok (.invokevirtual 33, 3) := by decide +kernel
theorem dL_areYears_228 : decode cL_areYears 228 = .ok (.iload 5, 2) := by decide +kernel
theorem dL_areYears_230 : decode cL_areYears 230 = .ok (.iload 6, 2) := by decide +kernel
theorem dL_areYears_232 : decode cL_areYears 232 = .ok (.idiv, 1) := by decide +kernel
theorem dL_areYears_233 : decode cL_areYears 233 = .ok (.sipush 1000, 3) := by decide +kernel
theorem dL_areYears_236 : decode cL_areYears 236 = .ok (.iadd, 1) := by decide +kernel
theorem dL_areYears_237 : decode cL_areYears 237 = .ok (.if_icmp .ne 51, 3) := by decide +kernel
theorem dL_areYears_240 : decode cL_areYears 240 = .ok (.aload_n 0, 1) := by decide +kernel
theorem dL_areYears_241 : decode cL_areYears 241 = .ok (.iload_n 1, 1) := by decide +kernel
theorem dL_areYears_242 : decode cL_areYears 242 = .ok (.iload 4, 2) := by decide +kernel
theorem dL_areYears_244 : decode cL_areYears 244 = .ok (.iconst 1, 1) := by decide +kernel
theorem dL_areYears_245 : decode cL_areYears 245 = .ok (.invokevirtual 33, 3) := by decide +kernel
theorem dL_areYears_248 : decode cL_areYears 248 = .ok (.iload 5, 2) := by decide +kernel
theorem dL_areYears_250 : decode cL_areYears 250 = .ok (.iload 6, 2) := by decide +kernel
theorem dL_areYears_252 : decode cL_areYears 252 = .ok (.idiv, 1) := by decide +kernel
theorem dL_areYears_253 : decode cL_areYears 253 = .ok (.sipush 1000, 3) := by decide +kernel
theorem dL_areYears_256 : decode cL_areYears 256 = .ok (.iadd, 1) := by decide +kernel
theorem dL_areYears_257 : decode cL_areYears 257 = .ok (.if_icmp .ne 31, 3) := by decide +kernel
theorem dL_areYears_260 : decode cL_areYears 260 = .ok (.iload 7, 2) := by decide +kernel
theorem dL_areYears_262 : decode cL_areYears 262 = .ok (.bipush (-40), 2) := by decide +kernel
theorem dL_areYears_264 : decode cL_areYears 264 = .ok (.if_icmp .lt 24, 3) := by decide +kernel
theorem dL_areYears_267 : decode cL_areYears 267 = .ok (.iload 7, 2) := by decide +kernel
theorem dL_areYears_269 : decode cL_areYears 269 = .ok (.bipush 40, 2) := by decide +kernel
theorem dL_areYears_271 : decode cL_areYears 271 = .ok (.if_icmp .gt 17, 3) := by decide +kernel
theorem dL_areYears_274 : decode cL_areYears 274 = .ok (.iload 8, 2) := by decide +kernel
theorem dL_areYears_276 : decode cL_areYears 276 = .ok (.bipush (-40), 2) := by decide +kernel
theorem dL_areYears_278 : decode cL_areYears 278 = .ok (.if_icmp .lt 10, 3) := by decide +kernel
theorem dL_areYears_281 : decode cL_areYears 281 = .ok (.iload 8, 2) := by decide +kernel
theorem dL_areYears_283 : decode cL_areYears 283 = .ok (.bipush 40, 2) := by decide +kernel
theorem dL_areYears_285 : decode cL_areYears 285 = .ok (.if_icmp .le 5, 3) := by decide +kernel
theorem dL_areYears_288 : decode cL_areYears 288 = .ok (.iconst 0, 1) := by decide +kernel
theorem dL_areYears_289 : decode cL_areYears 289 = .ok (.ireturn, 1) := by decide +kernel
theorem dL_areYears_290 : decode cL_areYears 290 = .ok (.iinc 4 1, 3) := by decide +kernel
theorem dL_areYears_293 : decode cL_areYears 293 = .ok (.goto (-211), 3) := by decide +kernel
theorem dL_areYears_296 : decode cL_areYears 296 = .ok (.iload_n 1, 1) := by decide +kernel
theorem dL_areYears_297 : decode cL_areYears 297 = .ok (.ifCond .gt 13, 3) := by decide +kernel
theorem dL_areYears_300 : decode cL_areYears 300 = .ok (.aload_n 0, 1) := by decide +kernel
theorem dL_areYears_301 : decode cL_areYears 301 = .ok (.bipush 8, 2) := by decide +kernel
theorem dL_areYears_303 : decode cL_areYears 303 = .ok (.invokevirtual 8, 3) := by decide +kernel
theorem dL_areYears_306 : decode cL_areYears 306 = .ok (.iload_n 3, 1) := by decide +kernel
theorem dL_areYears_307 : decode cL_areYears 307 = .ok (.if_icmp .ne 7, 3) := by decide +kernel
theorem dL_areYears_310 : decode cL_areYears 310 = .ok (.iconst 1, 1) := by decide +kernel
theorem dL_areYears_311 : decode cL_areYears 311 = .ok (.goto 4, 3) := by decide +kernel
theorem dL_areYears_314 : decode cL_areYears 314 = .ok (.iconst 0, 1) := by decide +kernel
theorem dL_areYears_315 : decode cL_areYears 315 = .ok (.ireturn, 1) := by decide +kernel
theorem dL_isDay_0 : decode cL_isDay 0 = .ok (.aload_n 0, 1) := by decide +kernel
theorem dL_isDay_1 : decode cL_isDay 1 = .ok (.iconst 1, 1) := by decide +kernel
theorem dL_isDay_2 : decode cL_isDay 2 = .ok (.invokevirtual 8, 3) := by decide +kernel
theorem dL_isDay_5 : decode cL_isDay 5 = .ok (.istore_n 3, 1) := by decide +kernel
theorem dL_isDay_6 : decode cL_isDay 6 = .ok (.aload_n 0, 1) := by decide +kernel
theorem dL_isDay_7 : decode cL_isDay 7 = .ok (.iload_n 3, 1) := by decide +kernel
theorem dL_isDay_8 : decode cL_isDay 8 = .ok (.iconst 1, 1) := by decide +kernel
theorem dL_isDay_9 : decode cL_isDay 9 = .ok (.invokevirtual 14, 3) := by decide +kernel
theorem dL_isDay_12 : decode cL_isDay 12 = .ok (.sipush 1000, 3) := by decide +kernel
theorem dL_isDay_15 : decode cL_isDay 15 = .ok (.isub, 1) := by decide +kernel
theorem dL_isDay_16 : decode cL_isDay 16 = .ok (.istore 4, 2) := by decide +kernel
theorem dL_isDay_18 : decode cL_isDay 18 = .ok (.aload_n 0, 1) := by decide +kernel
theorem dL_isDay_19 : decode cL_isDay 19 = .ok (.iload_n 3, 1) := by decide +kernel
theorem dL_isDay_20 : decode cL_isDay 20 = .ok (.iconst 4, 1) := by decide +kernel
theorem dL_isDay_21 : decode cL_isDay 21 = .ok (.invokevirtual 14, 3) := by decide +kernel
theorem dL_isDay_24 : decode cL_isDay 24 = .ok (.istore 5, 2) := by decide +kernel
theorem dL_isDay_26 : decode cL_isDay 26 = .ok (.iload_n 1, 1) := by decide +kernel
theorem dL_isDay_27 : decode cL_isDay 27 = .ok (.ifCond .gt 7, 3) := by decide +kernel
theorem dL_isDay_30 : decode cL_isDay 30 = .ok (.iconst 1, 1) := by decide +kernel
theorem dL_isDay_31 : decode cL_isDay 31 = .ok (.goto 4, 3) := by decide +kernel
theorem dL_isDay_34 : decode cL_isDay 34 = .ok (.iconst 0, 1) := by decide +kernel
theorem dL_isDay_35 : decode cL_isDay 35 = .ok (.istore 6, 2) := by decide +kernel
theorem dL_isDay_37 : decode cL_isDay 37 = .ok (.aload_n 0, 1) := by decide +kernel
theorem dL_isDay_38 : decode cL_isDay 38 = .ok (.bipush 15, 2) := by decide +kernel
theorem dL_isDay_40 : decode cL_isDay 40 = .ok (.invokevirtual 8, 3) := by decide +kernel
theorem dL_isDay_43 : decode cL_isDay 43 = .ok (.sipush 1000, 3) := by decide +kernel
theorem dL_isDay_46 : decode cL_isDay 46 = .ok (.isub, 1) := by decide +kernel
theorem dL_isDay_47 : decode cL_isDay 47 = .ok (.istore 7, 2) := by decide +kernel
theorem dL_isDay_49 : decode cL_isDay 49 = .ok (.aload_n 0, 1) := by decide +kernel
theorem dL_isDay_50 : decode cL_isDay 50 = .ok (.bipush 9, 2) := by decide +kernel
theorem dL_isDay_52 : decode cL_isDay 52 = .ok (.invokevirtual 8, 3) := by decide +kernel
theorem dL_isDay_55 : decode cL_isDay 55 = .ok (.istore 8, 2) := by decide +kernel
theorem dL_isDay_57 : decode cL_isDay 57 = .ok (.aload_n 0, 1) := by decide +kernel
theorem dL_isDay_58 : decode cL_isDay 58 = .ok (.iconst 0, 1) := by decide +kernel
theorem dL_isDay_59 : decode cL_isDay 59 = .ok (.invokevirtual 8, 3) := by decide +kernel
theorem dL_isDay_62 : decode cL_isDay 62 = .ok (.istore 9, 2) := by decide +kernel
theorem dL_isDay_64 : decode cL_isDay 64 = .ok (.aload_n 0, 1) := by decide +kernel
theorem dL_isDay_65 : decode cL_isDay 65 = .ok (.iconst 4, 1) := by decide +kernel
theorem dL_isDay_66 : decode cL_isDay 66 = .ok (.invokevirtual 8, 3) := by decide +kernel
theorem dL_isDay_69 : decode cL_isDay 69 = .ok (.istore 10, 2) := by decide +kernel
theorem dL_isDay_71 : decode cL_isDay 71 = .ok (.aload_n 0, 1) := by decide +kernel
theorem dL_isDay_72 : decode cL_isDay 72 = .ok (.iconst 5, 1) := by decide +kernel
theorem dL_isDay_73 : decode cL_isDay 73 = .ok (.invokevirtual 8, 3) := by decide +kernel
theorem dL_isDay_76 : decode cL_isDay 76 = .ok (.istore 11, 2) := by decide +kernel
theorem dL_isDay_78 : decode cL_isDay 78 = .ok (.aload_n 0, 1) := by decide +kernel
theorem dL_isDay_79 : decode cL_isDay 79 = .ok (.bipush 6, 2) := by decide +kernel
theorem dL_isDay_81 : decode cL_isDay 81 = .ok (.invokevirtual 8, 3) := by decide +kernel
theorem dL_isDay_84 : decode cL_isDay 84 = .ok (.istore 12, 2) := by decide +kernel
theorem dL_isDay_86 : decode cL_isDay 86 = .ok (.iconst 0, 1) := by decide +kernel
theorem dL_isDay_87 : decode cL_isDay 87 = .ok (.istore 13, 2) := by decide +kernel
theorem dL_isDay_89 : decode cL_isDay 89 = .ok (.iconst 0, 1) := by decide +kernel
theorem dL_isDay_90 : decode cL_isDay 90 = .ok (.istore 14, 2) := by decide +kernel
theorem dL_isDay_92 : decode cL_isDay 92 = .ok (.iload 14, 2) := by decide +kernel
theorem dL_isDay_94 : decode cL_isDay 94 = .ok (.iconst 4, 1) := by decide +kernel
theorem dL_isDay_95 : decode cL_isDay 95 = .ok (.if_icmp .ge 203, 3) := by decide +kernel
theorem dL_isDay_98 : decode cL_isDay 98 = .ok (.aload_n 0, 1) := by decide +kernel
theorem dL_isDay_99 : decode cL_isDay 99 = .ok (.iload 14, 2) := by decide +kernel
theorem dL_isDay_101 : decode cL_isDay 101 = .ok (.iconst 1, 1) := by decide +kernel
theorem dL_isDay_102 : decode cL_isDay 102 = .ok (.invokevirtual 39, 3) := by decide +kernel
theorem dL_isDay_105 : decode cL_isDay 105 = .ok (.istore 15, 2) := by decide +kernel
theorem dL_isDay_107 : decode cL_isDay 107 = .ok (.aload_n 0, 1) := by decide +kernel
theorem dL_isDay_108 : decode cL_isDay 108 = .ok (.iload 14, 2) := by decide +kernel
theorem dL_isDay_110 : decode cL_isDay 110 = .ok (.iconst 2, 1) := by decide +kernel
theorem dL_isDay_111 : decode cL_isDay 111 = .ok (.invokevirtual 39, 3) := by decide +kernel
theorem dL_isDay_114 : decode cL_isDay 114 = .ok (.iconst 1, 1) := by decide +kernel
theorem dL_isDay_115 : decode cL_isDay 115 = .ok (.if_icmp .ne 7, 3) := by decide +kernel
theorem dL_isDay_118 : decode cL_isDay 118 = .ok (.iconst 1, 1) := by decide +kernel
theorem dL_isDay_119 : decode cL_isDay 119 = .ok (.goto 4, 3) := by decide +kernel
theorem dL_isDay_122 : decode cL_isDay 122 = .ok (.iconst 0, 1) := by decide +kernel
theorem dL_isDay_123 : decode cL_isDay 123 = .ok (.iload 6, 2) := by decide +kernel
theorem dL_isDay_125 : decode cL_isDay 125 = .ok (.if_icmp .ne 7, 3) := by decide +kernel
theorem dL_isDay_128 : decode cL_isDay 128 = .ok (.iconst 1, 1) := by decide +kernel
theorem dL_isDay_129 : decode cL_isDay 129 = .ok (.goto 4, 3) := by decide +kernel
theorem dL_isDay_132 : decode cL_isDay 132 = .ok (.iconst 0, 1) := by decide +kernel
theorem dL_isDay_133 : decode cL_isDay 133 = .ok (.istore 16, 2) := by decide +kernel
theorem dL_isDay_135 : decode cL_isDay 135 = .ok (.iload 15, 2) := by decide +kernel
theorem dL_isDay_137 : decode cL_isDay 137 = .ok (.ifCond .ne 7, 3) := by decide +kernel
theorem dL_isDay_140 : decode cL_isDay 140 = .ok (.iconst 0, 1) := by decide +kernel
theorem dL_isDay_141 : decode cL_isDay 141 = .ok (.goto 36, 3) := by decide +kernel
theorem dL_isDay_144 : decode cL_isDay 144 = .ok (.iload 16, 2) := by decide +kernel
theorem dL_isDay_146 : decode cL_isDay 146 = .ok (.ifCond .ne 9, 3) := by decide +kernel
theorem dL_isDay_149 : decode cL_isDay 149 = .ok (.iload 15, 2) := by decide +kernel
theorem dL_isDay_151 : decode cL_isDay 151 = .ok (.ineg, 1) := by decide +kernel
theorem dL_isDay_152 : decode cL_isDay 152 = .ok (.goto 25, 3) := by decide +kernel
theorem dL_isDay_155 : decode cL_isDay 155 = .ok (.iload 5, 2) := by decide +kernel
theorem dL_isDay_157 : decode cL_isDay 157 = .ok (.aload_n 0, 1) := by decide +kernel
theorem dL_isDay_158 : decode cL_isDay 158 = .ok (.iload 14, 2) := by decide +kernel
theorem dL_isDay_160 : decode cL_isDay 160 = .ok (.iconst 2, 1) := by decide +kernel
theorem dL_isDay_161 : decode cL_isDay 161 = .ok (.invokevirtual 39, 3) := by decide +kernel
theorem dL_isDay_164 : decode cL_isDay 164 = .ok (.if_icmp .ne 8, 3) := by decide +kernel
theorem dL_isDay_167 : decode cL_isDay 167 = .ok (.iload 15, 2) := by decide +kernel
theorem dL_isDay_169 : decode cL_isDay 169 = .ok (.goto 8, 3) := by decide +kernel
theorem dL_isDay_172 : decode cL_isDay 172 = .ok (.iload 15, 2) := by decide +kernel
theorem dL_isDay_174 : decode cL_isDay 174 = .ok (.iload 7, 2) := by decide +kernel
theorem dL_isDay_176 : decode cL_isDay 176 = .ok (.imul, 1) := by decide +kernel
theorem dL_isDay_177 : decode cL_isDay 177 = .ok (.istore 17, 2) := by decide +kernel
theorem dL_isDay_179 : decode cL_isDay 179 = .ok (.aload_n 2, 1) := by decide +kernel
theorem dL_isDay_180 : decode cL_isDay 180 = .ok (.iload 14, 2) := by decide +kernel
theorem dL_isDay_182 : decode cL_isDay 182 = .ok (.aload_n 0, 1) := by decide +kernel
theorem dL_isDay_183 : decode cL_isDay 183 = .ok (.iload 14, 2) := by decide +kernel
theorem dL_isDay_185 : decode cL_isDay 185 = .ok (.iconst 0, 1) := by decide +kernel
theorem dL_isDay_186 : decode cL_isDay 186 = .ok (.invokevirtual 39, 3) := by decide +kernel
theorem dL_isDay_189 : decode cL_isDay 189 = .ok (.iload 16, 2) := by decide +kernel
theorem dL_isDay_191 : decode cL_isDay 191 = .ok (.ifCond .eq 16, 3) := by decide +kernel
theorem dL_isDay_194 : decode cL_isDay 194 = .ok (.iload 15, 2) := by decide +kernel
theorem dL_isDay_196 : decode cL_isDay 196 = .ok (.ifCond .le 11, 3) := by decide +kernel
theorem dL_isDay_199 : decode cL_isDay 199 = .ok (.iload 15, 2) := by decide +kernel
theorem dL_isDay_201 : decode cL_isDay 201 = .ok (.iload 17, 2) := by decide +kernel
theorem dL_isDay_203 : decode cL_isDay 203 = .ok (.iadd, 1) := by decide +kernel
theorem dL_isDay_204 : decode cL_isDay 204 = .ok (.goto 4, 3) := by decide +kernel
theorem dL_isDay_207 : decode cL_isDay 207 = .ok (.iconst 0, 1) := by decide +kernel
theorem dL_isDay_208 : decode cL_isDay 208 = .ok (.iadd, 1) := by decide +kernel
theorem dL_isDay_209 : decode cL_isDay 209 = .ok (.iastore, 1) := by decide +kernel
theorem dL_isDay_210 : decode cL_isDay 210 = .ok (.aload_n 2, 1) := by decide +kernel
theorem dL_isDay_211 : decode cL_isDay 211 = .ok (.iconst 4, 1) := by decide +kernel
theorem dL_isDay_212 : decode cL_isDay 212 = .ok (.iload 14, 2) := by decide +kernel
theorem dL_isDay_214 : decode cL_isDay 214 = .ok (.iadd, 1) := by decide +kernel
theorem dL_isDay_215 : decode cL_isDay 215 = .ok (.aload_n 0, 1) := by decide +kernel
theorem dL_isDay_216 : decode cL_isDay 216 = .ok (.iload 14, 2) := by decide +kernel
theorem dL_isDay_218 : decode cL_isDay 218 = .ok (.iconst 3, 1) := by decide +kernel
theorem dL_isDay_219 : decode cL_isDay 219 = .ok (.invokevirtual 39, 3) := by decide +kernel
theorem dL_isDay_222 : decode cL_isDay 222 = .ok (.iload 16, 2) := by decide +kernel
theorem dL_isDay_224 : decode cL_isDay 224 = .ok (.ifCond .eq 12, 3) := by decide +kernel
theorem dL_isDay_227 : decode cL_isDay 227 = .ok (.iload 15, 2) := by decide +kernel
theorem dL_isDay_229 : decode cL_isDay 229 = .ok (.ifCond .le 7, 3) := by decide +kernel
theorem dL_isDay_232 : decode cL_isDay 232 = .ok (.iconst 1, 1) := by decide +kernel
theorem dL_isDay_233 : decode cL_isDay 233 = .ok (.goto 4, 3) := by decide +kernel
theorem dL_isDay_236 : decode cL_isDay 236 = .ok (.iconst 0, 1) := by decide +kernel
theorem dL_isDay_237 : decode cL_isDay 237 = .ok (.iadd, 1) := by decide +kernel
theorem dL_isDay_238 : decode cL_isDay 238 = .ok (.iastore, 1) := by decide +kernel
theorem dL_isDay_239 : decode cL_isDay 239 = .ok (.aload_n 2, 1) := by decide +kernel
theorem dL_isDay_240 : decode cL_isDay 240 = .ok (.bipush 8, 2) := by decide +kernel
theorem dL_isDay_242 : decode cL_isDay 242 = .ok (.iload 14, 2) := by decide +kernel
theorem dL_isDay_244 : decode cL_isDay 244 = .ok (.iadd, 1) := by decide +kernel
theorem dL_isDay_245 : decode cL_isDay 245 = .ok (.aload_n 0, 1) := by decide +kernel
theorem dL_isDay_246 : decode cL_isDay 246 = .ok (.iload 14, 2) := by decide +kernel
theorem dL_isDay_248 : decode cL_isDay 248 = .ok (.iconst 4, 1) := by decide +kernel
theorem dL_isDay_249 : decode cL_isDay 249 = .ok (.invokevirtual 39, 3) := by decide +kernel
theorem dL_isDay_252 : decode cL_isDay 252 = .ok (.iload 16, 2) := by decide +kernel
theorem dL_isDay_254 : decode cL_isDay 254 = .ok (.ifCond .ne 12, 3) := by decide +kernel
theorem dL_isDay_257 : decode cL_isDay 257 = .ok (.iload 15, 2) := by decide +kernel
theorem dL_isDay_259 : decode cL_isDay 259 = .ok (.ifCond .le 7, 3) := by decide +kernel
theorem dL_isDay_262 : decode cL_isDay 262 = .ok (.iconst 1, 1) := by decide +kernel
theorem dL_isDay_263 : decode cL_isDay 263 = .ok (.goto 4, 3) := by decide +kernel
theorem dL_isDay_266 : decode cL_isDay 266 = .ok (.iconst 0, 1) := by decide +kernel
theorem dL_isDay_267 : decode cL_isDay 267 = .ok (.iadd, 1) := by decide +kernel
theorem dL_isDay_268 : decode cL_isDay 268 = .ok (.iastore, 1) := by decide +kernel
theorem dL_isDay_269 : decode cL_isDay 269 = .ok (.iload 13, 2) := by decide +kernel
theorem dL_isDay_271 : decode cL_isDay 271 = .ok (.iload 17, 2) := by decide +kernel
theorem dL_isDay_273 : decode cL_isDay 273 = .ok (.iadd, 1) := by decide +kernel
theorem dL_isDay_274 : decode cL_isDay 274 = .ok (.istore 13, 2) := by decide +kernel
theorem dL_isDay_276 : decode cL_isDay 276 = .ok (.aload_n 0, 1) := by decide +kernel
theorem dL_isDay_277 : decode cL_isDay 277 = .ok (.iload 14, 2) := by decide +kernel
theorem dL_isDay_279 : decode cL_isDay 279 = .ok (.iload_n 1, 1) := by decide +kernel
theorem dL_isDay_280 : decode cL_isDay 280 = .ok (.invokevirtual 42, 3) := by decide +kernel
theorem dL_isDay_283 : decode cL_isDay 283 = .ok (.aload_n 2, 1) := by decide +kernel
theorem dL_isDay_284 : decode cL_isDay 284 = .ok (.iload 14, 2) := by decide +kernel
theorem dL_isDay_286 : decode cL_isDay 286 = .ok (.iaload, 1) := by decide +kernel
theorem dL_isDay_287 : decode cL_isDay 287 = .ok (.if_icmp .eq 5, 3) := by decide +kernel
theorem dL_isDay_290 : decode cL_isDay 290 = .ok (.iconst 0, 1) := by decide +kernel
theorem dL_isDay_291 : decode cL_isDay 291 = .ok (.ireturn, 1) := by decide +kernel
theorem dL_isDay_292 : decode cL_isDay 292 = .ok (.iinc 14 1, 3) := by decide +kernel
theorem dL_isDay_295 : decode cL_isDay 295 = .ok (.goto (-203), 3) := by decide +kernel
theorem dL_isDay_298 : decode cL_isDay 298 = .ok (.iconst 0, 1) := by decide +kernel
theorem dL_isDay_299 : decode cL_isDay 299 = .ok (.istore 14, 2) := by decide +kernel
theorem dL_isDay_301 : decode cL_isDay 301 = .ok (.iload 14, 2) := by decide +kernel
theorem dL_isDay_303 : decode cL_isDay 303 = .ok (.bipush 20, 2) := by decide +kernel
theorem dL_isDay_305 : decode cL_isDay 305 = .ok (.if_icmp .ge 78, 3) := by decide +kernel
theorem dL_isDay_308 : decode cL_isDay 308 = .ok (.aload_n 2, 1) := by decide +kernel
theorem dL_isDay_309 : decode cL_isDay 309 = .ok (.bipush 12, 2) := by decide +kernel
theorem dL_isDay_311 : decode cL_isDay 311 = .ok (.iload 14, 2) := by decide +kernel
theorem dL_isDay_313 : decode cL_isDay 313 = .ok (.iadd, 1) := by decide +kernel
theorem dL_isDay_314 : decode cL_isDay 314 = .ok (.iload 14, 2) := by decide +kernel
theorem dL_isDay_316 : decode cL_isDay 316 = .ok (.iload_n 3, 1) := by decide +kernel
theorem dL_isDay_317 : decode cL_isDay 317 = .ok (.if_icmp .le 7, 3) := by decide +kernel
theorem dL_isDay_320 : decode cL_isDay 320 = .ok (.iconst 0, 1) := by decide +kernel
theorem dL_isDay_321 : decode cL_isDay 321 = .ok (.goto 25, 3) := by decide +kernel
theorem dL_isDay_324 : decode cL_isDay 324 = .ok (.iload 14, 2) := by decide +kernel
theorem dL_isDay_326 : decode cL_isDay 326 = .ok (.iload_n 3, 1) := by decide +kernel
theorem dL_isDay_327 : decode cL_isDay 327 = .ok (.if_icmp .ne 8, 3) := by decide +kernel
theorem dL_isDay_330 : decode cL_isDay 330 = .ok (.iload 4, 2) := by decide +kernel
theorem dL_isDay_332 : decode cL_isDay 332 = .ok (.goto 14, 3) := by decide +kernel
theorem dL_isDay_335 : decode cL_isDay 335 = .ok (.aload_n 0, 1) := by decide +kernel
theorem dL_isDay_336 : decode cL_isDay 336 = .ok (.iload 14, 2) := by decide +kernel
theorem dL_isDay_338 : decode cL_isDay 338 = .ok (.iconst 1, 1) := by decide +kernel
theorem dL_isDay_339 : decode cL_isDay 339 = .ok (.invokevirtual 14, 3) := by decide +kernel
theorem dL_isDay_342 : decode cL_isDay 342 = .ok (.sipush 1000, 3) := by decide +kernel
theorem dL_isDay_345 : decode cL_isDay 345 = .ok (.isub, 1) := by decide +kernel
theorem dL_isDay_346 : decode cL_isDay 346 = .ok (.iastore, 1) := by decide +kernel
theorem dL_isDay_347 : decode cL_isDay 347 = .ok (.aload_n 2, 1) := by decide +kernel
theorem dL_isDay_348 : decode cL_isDay 348 = .ok (.bipush 32, 2) := by decide +kernel
theorem dL_isDay_350 : decode cL_isDay 350 = .ok (.iload 14, 2) := by decide +kernel
theorem dL_isDay_352 : decode cL_isDay 352 = .ok (.iadd, 1) := by decide +kernel
theorem dL_isDay_353 : decode cL_isDay 353 = .ok (.iload_n 3, 1) := by decide +kernel
theorem dL_isDay_354 : decode cL_isDay 354 = .ok (.bipush 19, 2) := by decide +kernel
theorem dL_isDay_356 : decode cL_isDay 356 = .ok (.if_icmp .ne 13, 3) := by decide +kernel
theorem dL_isDay_359 : decode cL_isDay 359 = .ok (.aload_n 0, 1) := by decide +kernel
theorem dL_isDay_360 : decode cL_isDay 360 = .ok (.iload 14, 2) := by decide +kernel
theorem dL_isDay_362 : decode cL_isDay 362 = .ok (.iload_n 1, 1) := by decide +kernel
theorem dL_isDay_363 : decode cL_isDay 363 = .ok (.invokestatic 45, 3) := by decide +kernel
theorem dL_isDay_366 : decode cL_isDay 366 = .ok (.goto 10, 3) := by decide +kernel
theorem dL_isDay_369 : decode cL_isDay 369 = .ok (.aload_n 0, 1) := by decide +kernel
theorem dL_isDay_370 : decode cL_isDay 370 = .ok (.iload 14, 2) := by decide +kernel
theorem dL_isDay_372 : decode cL_isDay 372 = .ok (.iconst 0, 1) := by decide +kernel
theorem dL_isDay_373 : decode cL_isDay 373 = .ok (.invokevirtual 14, 3) := by decide +kernel
theorem dL_isDay_376 : decode cL_isDay 376 = .ok (.iastore, 1) := by decide +kernel
theorem dL_isDay_377 : decode cL_isDay 377 = .ok (.iinc 14 1, 3) := by decide +kernel
theorem dL_isDay_380 : decode cL_isDay 380 = .ok (.goto (-79), 3) := by decide +kernel
theorem dL_isDay_383 : decode cL_isDay 383 = .ok (.aload_n 0, 1) := by decide +kernel
theorem dL_isDay_384 : decode cL_isDay 384 = .ok (.iload_n 1, 1) := by decide +kernel
theorem dL_isDay_385 : decode cL_isDay 385 = .ok (.invokevirtual 49, 3) := by decide +kernel
theorem dL_isDay_388 : decode cL_isDay 388 = .ok (.iload_n 1, 1) := by decide +kernel
theorem dL_isDay_389 : decode cL_isDay 389 = .ok (.iload 4, 2) := by decide +kernel
theorem dL_isDay_391 : decode cL_isDay 391 = .ok (.isub, 1) := by decide +kernel
theorem dL_isDay_392 : decode cL_isDay 392 = .ok (.sipush 1000, 3) := by decide +kernel
theorem dL_isDay_395 : decode cL_isDay 395 = .ok (.iadd, 1) := by decide +kernel
theorem dL_isDay_396 : decode cL_isDay 396 = .ok (.if_icmp .eq 5, 3) := by decide +kernel
theorem dL_isDay_399 : decode cL_isDay 399 = .ok (.iconst 0, 1) := by decide +kernel
theorem dL_isDay_400 : decode cL_isDay 400 = .ok (.ireturn, 1) := by decide +kernel
theorem dL_isDay_401 : decode cL_isDay 401 = .ok (.iconst 0, 1) := by decide +kernel
theorem dL_isDay_402 : decode cL_isDay 402 = .ok (.istore 14, 2) := by decide +kernel
theorem dL_isDay_404 : decode cL_isDay 404 = .ok (.iload 14, 2) := by decide +kernel
theorem dL_isDay_406 : decode cL_isDay 406 = .ok (.iconst 4, 1) := by decide +kernel
theorem dL_isDay_407 : decode cL_isDay 407 = .ok (.if_icmp .ge 68, 3) := by decide +kernel
theorem dL_isDay_410 : decode cL_isDay 410 = .ok (.aload_n 0, 1) := by decide +kernel
theorem dL_isDay_411 : decode cL_isDay 411 = .ok (.iload 14, 2) := by decide +kernel
theorem dL_isDay_413 : decode cL_isDay 413 = .ok (.iconst 0, 1) := by decide +kernel
theorem dL_isDay_414 : decode cL_isDay 414 = .ok (.invokevirtual 39, 3) := by decide +kernel
theorem dL_isDay_417 : decode cL_isDay 417 = .ok (.aload_n 2, 1) := by decide +kernel
theorem dL_isDay_418 : decode cL_isDay 418 = .ok (.iload 14, 2) := by decide +kernel
theorem dL_isDay_420 : decode cL_isDay 420 = .ok (.iaload, 1) := by decide +kernel
theorem dL_isDay_421 : decode cL_isDay 421 = .ok (.if_icmp .ne 46, 3) := by decide +kernel
theorem dL_isDay_424 : decode cL_isDay 424 = .ok (.aload_n 0, 1) := by decide +kernel
theorem dL_isDay_425 : decode cL_isDay 425 = .ok (.iload 14, 2) := by decide +kernel
theorem dL_isDay_427 : decode cL_isDay 427 = .ok (.iconst 1, 1) := by decide +kernel
theorem dL_isDay_428 : decode cL_isDay 428 = .ok (.invokevirtual 39, 3) := by decide +kernel
theorem dL_isDay_431 : decode cL_isDay 431 = .ok (.ifCond .ne 36, 3) := by decide +kernel
theorem dL_isDay_434 : decode cL_isDay 434 = .ok (.aload_n 0, 1) := by decide +kernel
theorem dL_isDay_435 : decode cL_isDay 435 = .ok (.iload 14, 2) := by decide +kernel
theorem dL_isDay_437 : decode cL_isDay 437 = .ok (.iconst 3, 1) := by decide +kernel
theorem dL_isDay_438 : decode cL_isDay 438 = .ok (.invokevirtual 39, 3) := by decide +kernel
theorem dL_isDay_441 : decode cL_isDay 441 = .ok (.aload_n 2, 1) := by decide +kernel
theorem dL_isDay_442 : decode cL_isDay 442 = .ok (.iconst 4, 1) := by decide +kernel
theorem dL_isDay_443 : decode cL_isDay 443 = .ok (.iload 14, 2) := by decide +kernel
theorem dL_isDay_445 : decode cL_isDay 445 = .ok (.iadd, 1) := by decide +kernel
theorem dL_isDay_446 : decode cL_isDay 446 = .ok (.iaload, 1) := by decide +kernel
theorem dL_isDay_447 : decode cL_isDay 447 = .ok (.if_icmp .ne 20, 3) := by decide +kernel
theorem dL_isDay_450 : decode cL_isDay 450 = .ok (.aload_n 0, 1) := by decide +kernel
theorem dL_isDay_451 : decode cL_isDay 451 = .ok (.iload 14, 2) := by decide +kernel
theorem dL_isDay_453 : decode cL_isDay 453 = .ok (.iconst 4, 1) := by decide +kernel
theorem dL_isDay_454 : decode cL_isDay 454 = .ok (.invokevirtual 39, 3) := by decide +kernel
theorem dL_isDay_457 : decode cL_isDay 457 = .ok (.aload_n 2, 1) := by decide +kernel
theorem dL_isDay_458 : decode cL_isDay 458 = .ok (.bipush 8, 2) := by decide +kernel
theorem dL_isDay_460 : decode cL_isDay 460 = .ok (.iload 14, 2) := by decide +kernel
theorem dL_isDay_462 : decode cL_isDay 462 = .ok (.iadd, 1) := by decide +kernel
theorem dL_isDay_463 : decode cL_isDay 463 = .ok (.iaload, 1) := by decide +kernel
theorem dL_isDay_464 : decode cL_isDay 464 = .ok (.if_icmp .eq 5, 3) := by decide +kernel
theorem dL_isDay_467 : decode cL_isDay 467 = .ok (.iconst 0, 1) := by decide +kernel
theorem dL_isDay_468 : decode cL_isDay 468 = .ok (.ireturn, 1) := by decide +kernel
theorem dL_isDay_469 : decode cL_isDay 469 = .ok (.iinc 14 1, 3) := by decide +kernel
theorem dL_isDay_472 : decode cL_isDay 472 = .ok (.goto (-68), 3) := by decide +kernel
theorem dL_isDay_475 : decode cL_isDay 475 = .ok (.iconst 0, 1) := by decide +kernel
theorem dL_isDay_476 : decode cL_isDay 476 = .ok (.istore 14, 2) := by decide +kernel
theorem dL_isDay_478 : decode cL_isDay 478 = .ok (.iload 14, 2) := by decide +kernel
theorem dL_isDay_480 : decode cL_isDay 480 = .ok (.bipush 20, 2) := by decide +kernel
theorem dL_isDay_482 : decode cL_isDay 482 = .ok (.if_icmp .ge 94, 3) := by decide +kernel
theorem dL_isDay_485 : decode cL_isDay 485 = .ok (.aload_n 0, 1) := by decide +kernel
theorem dL_isDay_486 : decode cL_isDay 486 = .ok (.iload 14, 2) := by decide +kernel
theorem dL_isDay_488 : decode cL_isDay 488 = .ok (.iconst 0, 1) := by decide +kernel
theorem dL_isDay_489 : decode cL_isDay 489 = .ok (.invokevirtual 14, 3) := by decide +kernel
theorem dL_isDay_492 : decode cL_isDay 492 = .ok (.aload_n 2, 1) := by decide +kernel
theorem dL_isDay_493 : decode cL_isDay 493 = .ok (.bipush 32, 2) := by decide +kernel
theorem dL_isDay_495 : decode cL_isDay 495 = .ok (.iload 14, 2) := by decide +kernel
theorem dL_isDay_497 : decode cL_isDay 497 = .ok (.iadd, 1) := by decide +kernel
theorem dL_isDay_498 : decode cL_isDay 498 = .ok (.iaload, 1) := by decide +kernel
theorem dL_isDay_499 : decode cL_isDay 499 = .ok (.if_icmp .ne 69, 3) := by decide +kernel
theorem dL_isDay_502 : decode cL_isDay 502 = .ok (.iload_n 3, 1) := by decide +kernel
theorem dL_isDay_503 : decode cL_isDay 503 = .ok (.bipush 19, 2) := by decide +kernel
theorem dL_isDay_505 : decode cL_isDay 505 = .ok (.if_icmp .ge 30, 3) := by decide +kernel
theorem dL_isDay_508 : decode cL_isDay 508 = .ok (.iload 14, 2) := by decide +kernel
theorem dL_isDay_510 : decode cL_isDay 510 = .ok (.iload_n 3, 1) := by decide +kernel
theorem dL_isDay_511 : decode cL_isDay 511 = .ok (.if_icmp .gt 24, 3) := by decide +kernel
theorem dL_isDay_514 : decode cL_isDay 514 = .ok (.aload_n 0, 1) := by decide +kernel
theorem dL_isDay_515 : decode cL_isDay 515 = .ok (.iload 14, 2) := by decide +kernel
theorem dL_isDay_517 : decode cL_isDay 517 = .ok (.iconst 1, 1) := by decide +kernel
theorem dL_isDay_518 : decode cL_isDay 518 = .ok (.invokevirtual 14, 3) := by decide +kernel
theorem dL_isDay_521 : decode cL_isDay 521 = .ok (.sipush 1000, 3) := by decide +kernel
theorem dL_isDay_524 : decode cL_isDay 524 = .ok (.isub, 1) := by decide +kernel
theorem dL_isDay_525 : decode cL_isDay 525 = .ok (.aload_n 2, 1) := by decide +kernel
theorem dL_isDay_526 : decode cL_isDay 526 = .ok (.bipush 12, 2) := by decide +kernel
theorem dL_isDay_528 : decode cL_isDay 528 = .ok (.iload 14, 2) := by decide +kernel
theorem dL_isDay_530 : decode cL_isDay 530 = .ok (.iadd, 1) := by decide +kernel
theorem dL_isDay_531 : decode cL_isDay 531 = .ok (.iaload, 1) := by decide +kernel
theorem dL_isDay_532 : decode cL_isDay 532 = .ok (.if_icmp .ne 36, 3) := by decide +kernel
theorem dL_isDay_535 : decode cL_isDay 535 = .ok (.iload_n 3, 1) := by decide +kernel
theorem dL_isDay_536 : decode cL_isDay 536 = .ok (.bipush 19, 2) := by decide +kernel
theorem dL_isDay_538 : decode cL_isDay 538 = .ok (.if_icmp .ne 32, 3) := by decide +kernel
theorem dL_isDay_541 : decode cL_isDay 541 = .ok (.aload_n 0, 1) := by decide +kernel
theorem dL_isDay_542 : decode cL_isDay 542 = .ok (.iconst 0, 1) := by decide +kernel
theorem dL_isDay_543 : decode cL_isDay 543 = .ok (.iload 14, 2) := by decide +kernel
theorem dL_isDay_545 : decode cL_isDay 545 = .ok (.iconst 0, 1) := by decide +kernel
theorem dL_isDay_546 : decode cL_isDay 546 = .ok (.invokevirtual 29, 3) := by decide +kernel
theorem dL_isDay_549 : decode cL_isDay 549 = .ok (.aload_n 0, 1) := by decide +kernel
theorem dL_isDay_550 : decode cL_isDay 550 = .ok (.iconst 0, 1) := by decide +kernel
theorem dL_isDay_551 : decode cL_isDay 551 = .ok (.iload 14, 2) := by decide +kernel
theorem dL_isDay_553 : decode cL_isDay 553 = .ok (.iconst 1, 1) := by decide +kernel
theorem dL_isDay_554 : decode cL_isDay 554 = .ok (.invokevirtual 29, 3) := by decide +kernel
theorem dL_isDay_557 : decode cL_isDay 557 = .ok (.isub, 1) := by decide +kernel
theorem dL_isDay_558 : decode cL_isDay 558 = .ok (.aload_n 2, 1) := by decide +kernel
theorem dL_isDay_559 : decode cL_isDay 559 = .ok (.bipush 12, 2) := by decide +kernel
theorem dL_isDay_561 : decode cL_isDay 561 = .ok (.iload 14, 2) := by decide +kernel
theorem dL_isDay_563 : decode cL_isDay 563 = .ok (.iadd, 1) := by decide +kernel
theorem dL_isDay_564 : decode cL_isDay 564 = .ok (.iaload, 1) := by decide +kernel
theorem dL_isDay_565 : decode cL_isDay 565 = .ok (.if_icmp .eq 5, 3) := by decide +kernel
theorem dL_isDay_568 : decode cL_isDay 568 = .ok (.iconst 0, 1) := by decide +kernel
theorem dL_isDay_569 : decode cL_isDay 569 = .ok (.ireturn, 1) := by decide +kernel
theorem dL_isDay_570 : decode cL_isDay 570 = .ok (.iinc 14 1, 3) := by decide +kernel
theorem dL_isDay_573 : decode cL_isDay 573 = .ok (.goto (-95), 3) := by decide +kernel
theorem dL_isDay_576 : decode cL_isDay 576 = .ok (.iload_n 3, 1) := by decide +kernel
theorem dL_isDay_577 : decode cL_isDay 577 = .ok (.bipush 19, 2) := by decide +kernel
theorem dL_isDay_579 : decode cL_isDay 579 = .ok (.if_icmp .ne 7, 3) := by decide +kernel
theorem dL_isDay_582 : decode cL_isDay 582 = .ok (.iconst 1, 1) := by decide +kernel
theorem dL_isDay_583 : decode cL_isDay 583 = .ok (.goto 4, 3) := by decide +kernel
theorem dL_isDay_586 : decode cL_isDay 586 = .ok (.iconst 0, 1) := by decide +kernel
theorem dL_isDay_587 : decode cL_isDay 587 = .ok (.istore 14, 2) := by decide +kernel
theorem dL_isDay_589 : decode cL_isDay 589 = .ok (.aload_n 0, 1) := by decide +kernel
theorem dL_isDay_590 : decode cL_isDay 590 = .ok (.bipush 9, 2) := by decide +kernel
theorem dL_isDay_592 : decode cL_isDay 592 = .ok (.invokevirtual 8, 3) := by decide +kernel
theorem dL_isDay_595 : decode cL_isDay 595 = .ok (.iload 8, 2) := by decide +kernel
theorem dL_isDay_597 : decode cL_isDay 597 = .ok (.iload 13, 2) := by decide +kernel
theorem dL_isDay_599 : decode cL_isDay 599 = .ok (.isub, 1) := by decide +kernel
theorem dL_isDay_600 : decode cL_isDay 600 = .ok (.if_icmp .ne 130, 3) := by decide +kernel
theorem dL_isDay_603 : decode cL_isDay 603 = .ok (.aload_n 0, 1) := by decide +kernel
theorem dL_isDay_604 : decode cL_isDay 604 = .ok (.iconst 4, 1) := by decide +kernel
theorem dL_isDay_605 : decode cL_isDay 605 = .ok (.invokevirtual 8, 3) := by decide +kernel
theorem dL_isDay_608 : decode cL_isDay 608 = .ok (.iload 10, 2) := by decide +kernel
theorem dL_isDay_610 : decode cL_isDay 610 = .ok (.iload 6, 2) := by decide +kernel
theorem dL_isDay_612 : decode cL_isDay 612 = .ok (.ifCond .eq 13, 3) := by decide +kernel
theorem dL_isDay_615 : decode cL_isDay 615 = .ok (.iload 5, 2) := by decide +kernel
theorem dL_isDay_617 : decode cL_isDay 617 = .ok (.iconst 1, 1) := by decide +kernel
theorem dL_isDay_618 : decode cL_isDay 618 = .ok (.if_icmp .ne 7, 3) := by decide +kernel
theorem dL_isDay_621 : decode cL_isDay 621 = .ok (.iconst 1, 1) := by decide +kernel
theorem dL_isDay_622 : decode cL_isDay 622 = .ok (.goto 4, 3) := by decide +kernel
theorem dL_isDay_625 : decode cL_isDay 625 = .ok (.iconst 0, 1) := by decide +kernel
theorem dL_isDay_626 : decode cL_isDay 626 = .ok (.iadd, 1) := by decide +kernel
theorem dL_isDay_627 : decode cL_isDay 627 = .ok (.if_icmp .ne 103, 3) := by decide +kernel
theorem dL_isDay_630 : decode cL_isDay 630 = .ok (.aload_n 0, 1) := by decide +kernel
theorem dL_isDay_631 : decode cL_isDay 631 = .ok (.iconst 5, 1) := by decide +kernel
theorem dL_isDay_632 : decode cL_isDay 632 = .ok (.invokevirtual 8, 3) := by decide +kernel
theorem dL_isDay_635 : decode cL_isDay 635 = .ok (.iload 11, 2) := by decide +kernel
theorem dL_isDay_637 : decode cL_isDay 637 = .ok (.iload 6, 2) := by decide +kernel
theorem dL_isDay_639 : decode cL_isDay 639 = .ok (.ifCond .eq 12, 3) := by decide +kernel
theorem dL_isDay_642 : decode cL_isDay 642 = .ok (.iload 5, 2) := by decide +kernel
theorem dL_isDay_644 : decode cL_isDay 644 = .ok (.ifCond .ne 7, 3) := by decide +kernel
theorem dL_isDay_647 : decode cL_isDay 647 = .ok (.iconst 1, 1) := by decide +kernel
theorem dL_isDay_648 : decode cL_isDay 648 = .ok (.goto 4, 3) := by decide +kernel
theorem dL_isDay_651 : decode cL_isDay 651 = .ok (.iconst 0, 1) := by decide +kernel
theorem dL_isDay_652 : decode cL_isDay 652 = .ok (.iadd, 1) := by decide +kernel
theorem dL_isDay_653 : decode cL_isDay 653 = .ok (.if_icmp .ne 77, 3) := by decide +kernel
theorem dL_isDay_656 : decode cL_isDay 656 = .ok (.aload_n 0, 1) := by decide +kernel
theorem dL_isDay_657 : decode cL_isDay 657 = .ok (.bipush 6, 2) := by decide +kernel
theorem dL_isDay_659 : decode cL_isDay 659 = .ok (.invokevirtual 8, 3) := by decide +kernel
theorem dL_isDay_662 : decode cL_isDay 662 = .ok (.iload 12, 2) := by decide +kernel
theorem dL_isDay_664 : decode cL_isDay 664 = .ok (.iload 6, 2) := by decide +kernel
theorem dL_isDay_666 : decode cL_isDay 666 = .ok (.ifCond .ne 13, 3) := by decide +kernel
theorem dL_isDay_669 : decode cL_isDay 669 = .ok (.iload 5, 2) := by decide +kernel
theorem dL_isDay_671 : decode cL_isDay 671 = .ok (.iconst 1, 1) := by decide +kernel
theorem dL_isDay_672 : decode cL_isDay 672 = .ok (.if_icmp .ne 7, 3) := by decide +kernel
theorem dL_isDay_675 : decode cL_isDay 675 = .ok (.iconst 1, 1) := by decide +kernel
theorem dL_isDay_676 : decode cL_isDay 676 = .ok (.goto 4, 3) := by decide +kernel
theorem dL_isDay_679 : decode cL_isDay 679 = .ok (.iconst 0, 1) := by decide +kernel
theorem dL_isDay_680 : decode cL_isDay 680 = .ok (.iadd, 1) := by decide +kernel
theorem dL_isDay_681 : decode cL_isDay 681 = .ok (.if_icmp .ne 49, 3) := by decide +kernel
theorem dL_isDay_684 : decode cL_isDay 684 = .ok (.aload_n 0, 1) := by decide +kernel
theorem dL_isDay_685 : decode cL_isDay 685 = .ok (.iconst 0, 1) := by decide +kernel
theorem dL_isDay_686 : decode cL_isDay 686 = .ok (.invokevirtual 8, 3) := by decide +kernel
theorem dL_isDay_689 : decode cL_isDay 689 = .ok (.iload 14, 2) := by decide +kernel
theorem dL_isDay_691 : decode cL_isDay 691 = .ok (.ifCond .eq 10, 3) := by decide +kernel
theorem dL_isDay_694 : decode cL_isDay 694 = .ok (.iload 9, 2) := by decide +kernel
theorem dL_isDay_696 : decode cL_isDay 696 = .ok (.iconst 1, 1) := by decide +kernel
theorem dL_isDay_697 : decode cL_isDay 697 = .ok (.iadd, 1) := by decide +kernel
theorem dL_isDay_698 : decode cL_isDay 698 = .ok (.goto 5, 3) := by decide +kernel
theorem dL_isDay_701 : decode cL_isDay 701 = .ok (.iload 9, 2) := by decide +kernel
theorem dL_isDay_703 : decode cL_isDay 703 = .ok (.if_icmp .ne 27, 3) := by decide +kernel
theorem dL_isDay_706 : decode cL_isDay 706 = .ok (.aload_n 0, 1) := by decide +kernel
theorem dL_isDay_707 : decode cL_isDay 707 = .ok (.iconst 1, 1) := by decide +kernel
theorem dL_isDay_708 : decode cL_isDay 708 = .ok (.invokevirtual 8, 3) := by decide +kernel
theorem dL_isDay_711 : decode cL_isDay 711 = .ok (.iload 14, 2) := by decide +kernel
theorem dL_isDay_713 : decode cL_isDay 713 = .ok (.ifCond .eq 7, 3) := by decide +kernel
theorem dL_isDay_716 : decode cL_isDay 716 = .ok (.iconst 0, 1) := by decide +kernel
theorem dL_isDay_717 : decode cL_isDay 717 = .ok (.goto 6, 3) := by decide +kernel
theorem dL_isDay_720 : decode cL_isDay 720 = .ok (.iload_n 3, 1) := by decide +kernel
theorem dL_isDay_721 : decode cL_isDay 721 = .ok (.iconst 1, 1) := by decide +kernel
theorem dL_isDay_722 : decode cL_isDay 722 = .ok (.iadd, 1) := by decide +kernel
theorem dL_isDay_723 : decode cL_isDay 723 = .ok (.if_icmp .ne 7, 3) := by decide +kernel
theorem dL_isDay_726 : decode cL_isDay 726 = .ok (.iconst 1, 1) := by decide +kernel
theorem dL_isDay_727 : decode cL_isDay 727 = .ok (.goto 4, 3) := by decide +kernel
theorem dL_isDay_730 : decode cL_isDay 730 = .ok (.iconst 0, 1) := by decide +kernel
theorem dL_isDay_731 : decode cL_isDay 731 = .ok (.ireturn, 1) := by decide +kernel
theorem dL_nextBase_0 : decode cL_nextBase 0 = .ok (.iconst 0, 1) := by decide +kernel
theorem dL_nextBase_1 : decode cL_nextBase 1 = .ok (.istore_n 3, 1) := by decide +kernel
theorem dL_nextBase_2 : decode cL_nextBase 2 = .ok (.iconst 0, 1) := by decide +kernel
theorem dL_nextBase_3 : decode cL_nextBase 3 = .ok (.istore 4, 2) := by decide +kernel
theorem dL_nextBase_5 : decode cL_nextBase 5 = .ok (.aload_n 0, 1) := by decide +kernel
theorem dL_nextBase_6 : decode cL_nextBase 6 = .ok (.bipush 12, 2) := by decide +kernel
theorem dL_nextBase_8 : decode cL_nextBase 8 = .ok (.invokevirtual 8, 3) := by decide +kernel
theorem dL_nextBase_11 : decode cL_nextBase 11 = .ok (.sipush 1000, 3) := by decide +kernel
theorem dL_nextBase_14 : decode cL_nextBase 14 = .ok (.isub, 1) := by decide +kernel
theorem dL_nextBase_15 : decode cL_nextBase 15 = .ok (.istore 5, 2) := by decide +kernel
theorem dL_nextBase_17 : decode cL_nextBase 17 = .ok (.iconst 0, 1) := by decide +kernel
theorem dL_nextBase_18 : decode cL_nextBase 18 = .ok (.istore 6, 2) := by decide +kernel
theorem dL_nextBase_20 : decode cL_nextBase 20 = .ok (.iload 6, 2) := by decide +kernel
theorem dL_nextBase_22 : decode cL_nextBase 22 = .ok (.bipush 20, 2) := by decide +kernel
theorem dL_nextBase_24 : decode cL_nextBase 24 = .ok (.if_icmp .ge 88, 3) := by decide +kernel
theorem dL_nextBase_27 : decode cL_nextBase 27 = .ok (.iload 6, 2) := by decide +kernel
theorem dL_nextBase_29 : decode cL_nextBase 29 = .ok (.bipush 19, 2) := by decide +kernel
theorem dL_nextBase_31 : decode cL_nextBase 31 = .ok (.if_icmp .ge 17, 3) := by decide +kernel
theorem dL_nextBase_34 : decode cL_nextBase 34 = .ok (.aload_n 0, 1) := by decide +kernel
theorem dL_nextBase_35 : decode cL_nextBase 35 = .ok (.iload 6, 2) := by decide +kernel
theorem dL_nextBase_37 : decode cL_nextBase 37 = .ok (.iconst 3, 1) := by decide +kernel
theorem dL_nextBase_38 : decode cL_nextBase 38 = .ok (.invokevirtual 14, 3) := by decide +kernel
theorem dL_nextBase_41 : decode cL_nextBase 41 = .ok (.sipush 1000, 3) := by decide +kernel
theorem dL_nextBase_44 : decode cL_nextBase 44 = .ok (.isub, 1) := by decide +kernel
theorem dL_nextBase_45 : decode cL_nextBase 45 = .ok (.goto 16, 3) := by decide +kernel
theorem dL_nextBase_48 : decode cL_nextBase 48 = .ok (.iload_n 2, 1) := by decide +kernel
theorem dL_nextBase_49 : decode cL_nextBase 49 = .ok (.aload_n 0, 1) := by decide +kernel
theorem dL_nextBase_50 : decode cL_nextBase 50 = .ok (.bipush 19, 2) := by decide +kernel
theorem dL_nextBase_52 : decode cL_nextBase 52 = .ok (.iconst 1, 1) := by decide +kernel
theorem dL_nextBase_53 : decode cL_nextBase 53 = .ok (.invokevirtual 14, 3) := by decide +kernel
theorem dL_nextBase_56 : decode cL_nextBase 56 = .ok (.sipush 1000, 3) := by decide +kernel
theorem dL_nextBase_59 : decode cL_nextBase 59 = .ok (.isub, 1) := by decide +kernel
theorem dL_nextBase_60 : decode cL_nextBase 60 = .ok (.isub, 1) := by decide +kernel
theorem dL_nextBase_61 : decode cL_nextBase 61 = .ok (.istore 7, 2) := by decide +kernel
theorem dL_nextBase_63 : decode cL_nextBase 63 = .ok (.iload_n 3, 1) := by decide +kernel
theorem dL_nextBase_64 : decode cL_nextBase 64 = .ok (.iload 6, 2) := by decide +kernel
theorem dL_nextBase_66 : decode cL_nextBase 66 = .ok (.iload_n 1, 1) := by decide +kernel
theorem dL_nextBase_67 : decode cL_nextBase 67 = .ok (.isub, 1) := by decide +kernel
theorem dL_nextBase_68 : decode cL_nextBase 68 = .ok (.invokestatic 26, 3) := by decide +kernel
theorem dL_nextBase_71 : decode cL_nextBase 71 = .ok (.iload 5, 2) := by decide +kernel
theorem dL_nextBase_73 : decode cL_nextBase 73 = .ok (.if_icmp .gt 8, 3) := by decide +kernel
theorem dL_nextBase_76 : decode cL_nextBase 76 = .ok (.iload 7, 2) := by decide +kernel
theorem dL_nextBase_78 : decode cL_nextBase 78 = .ok (.goto 4, 3) := by decide +kernel
theorem dL_nextBase_81 : decode cL_nextBase 81 = .ok (.iconst 0, 1) := by decide +kernel
theorem dL_nextBase_82 : decode cL_nextBase 82 = .ok (.iadd, 1) := by decide +kernel
theorem dL_nextBase_83 : decode cL_nextBase 83 = .ok (.istore_n 3, 1) := by decide +kernel
theorem dL_nextBase_84 : decode cL_nextBase 84 = .ok (.iload 4, 2) := by decide +kernel
theorem dL_nextBase_86 : decode cL_nextBase 86 = .ok (.iload 6, 2) := by decide +kernel
theorem dL_nextBase_88 : decode cL_nextBase 88 = .ok (.iload_n 1, 1) := by decide +kernel
theorem dL_nextBase_89 : decode cL_nextBase 89 = .ok (.isub, 1) := by decide +kernel
theorem dL_nextBase_90 : decode cL_nextBase 90 = .ok (.invokestatic 26, 3) := by decide +kernel
theorem dL_nextBase_93 : decode cL_nextBase 93 = .ok (.iload 5, 2) := by decide +kernel
theorem dL_nextBase_95 : decode cL_nextBase 95 = .ok (.if_icmp .gt 7, 3) := by decide +kernel
theorem dL_nextBase_98 : decode cL_nextBase 98 = .ok (.iconst 1, 1) := by decide +kernel
theorem dL_nextBase_99 : decode cL_nextBase 99 = .ok (.goto 4, 3) := by decide +kernel
theorem dL_nextBase_102 : decode cL_nextBase 102 = .ok (.iconst 0, 1) := by decide +kernel
theorem dL_nextBase_103 : decode cL_nextBase 103 = .ok (.iadd, 1) := by decide +kernel
theorem dL_nextBase_104 : decode cL_nextBase 104 = .ok (.istore 4, 2) := by decide +kernel
theorem dL_nextBase_106 : decode cL_nextBase 106 = .ok (.iinc 6 1, 3) := by decide +kernel
theorem dL_nextBase_109 : decode cL_nextBase 109 = .ok (.goto (-89), 3) := by decide +kernel
theorem dL_nextBase_112 : decode cL_nextBase 112 = .ok (.aload_n 0, 1) := by decide +kernel
theorem dL_nextBase_113 : decode cL_nextBase 113 = .ok (.iload_n 1, 1) := by decide +kernel
theorem dL_nextBase_114 : decode cL_nextBase 114 = .ok (.iconst 0, 1) := by decide +kernel
theorem dL_nextBase_115 : decode cL_nextBase 115 = .ok (.invokevirtual 14, 3) := by decide +kernel
theorem dL_nextBase_118 : decode cL_nextBase 118 = .ok (.sipush 1000, 3) := by decide +kernel
theorem dL_nextBase_121 : decode cL_nextBase 121 = .ok (.isub, 1) := by decide +kernel
theorem dL_nextBase_122 : decode cL_nextBase 122 = .ok (.iload_n 3, 1) := by decide +kernel
theorem dL_nextBase_123 : decode cL_nextBase 123 = .ok (.iload 4, 2) := by decide +kernel
theorem dL_nextBase_125 : decode cL_nextBase 125 = .ok (.idiv, 1) := by decide +kernel
theorem dL_nextBase_126 : decode cL_nextBase 126 = .ok (.aload_n 0, 1) := by decide +kernel
theorem dL_nextBase_127 : decode cL_nextBase 127 = .ok (.bipush 13, 2) := by decide +kernel
theorem dL_nextBase_129 : decode cL_nextBase 129 = .ok (.invokevirtual 8, 3) := by decide +kernel
theorem dL_nextBase_132 : decode cL_nextBase 132 = .ok (.sipush 1000, 3) := by decide +kernel
theorem dL_nextBase_135 : decode cL_nextBase 135 = .ok (.isub, 1) := by decide +kernel
theorem dL_nextBase_136 : decode cL_nextBase 136 = .ok (.imul, 1) := by decide +kernel
theorem dL_nextBase_137 : decode cL_nextBase 137 = .ok (.bipush 100, 2) := by decide +kernel
theorem dL_nextBase_139 : decode cL_nextBase 139 = .ok (.idiv, 1) := by decide +kernel
theorem dL_nextBase_140 : decode cL_nextBase 140 = .ok (.iadd, 1) := by decide +kernel
theorem dL_nextBase_141 : decode cL_nextBase 141 = .ok (.invokestatic 21, 3) := by decide +kernel
theorem dL_nextBase_144 : decode cL_nextBase 144 = .ok (.sipush 1000, 3) := by decide +kernel
theorem dL_nextBase_147 : decode cL_nextBase 147 = .ok (.iadd, 1) := by decide +kernel
theorem dL_nextBase_148 : decode cL_nextBase 148 = .ok (.ireturn, 1) := by decide +kernel
theorem dL_isNext_0 : decode cL_isNext 0 = .ok (.aload_n 0, 1) := by decide +kernel
theorem dL_isNext_1 : decode cL_isNext 1 = .ok (.invokevirtual 52, 3) := by decide +kernel
theorem dL_isNext_4 : decode cL_isNext 4 = .ok (.istore_n 2, 1) := by decide +kernel
theorem dL_isNext_5 : decode cL_isNext 5 = .ok (.aload_n 0, 1) := by decide +kernel
theorem dL_isNext_6 : decode cL_isNext 6 = .ok (.iconst 0, 1) := by decide +kernel
theorem dL_isNext_7 : decode cL_isNext 7 = .ok (.invokevirtual 8, 3) := by decide +kernel
theorem dL_isNext_10 : decode cL_isNext 10 = .ok (.istore_n 3, 1) := by decide +kernel
theorem dL_isNext_11 : decode cL_isNext 11 = .ok (.iconst 0, 1) := by decide +kernel
theorem dL_isNext_12 : decode cL_isNext 12 = .ok (.istore 4, 2) := by decide +kernel
theorem dL_isNext_14 : decode cL_isNext 14 = .ok (.iload 4, 2) := by decide +kernel
theorem dL_isNext_16 : decode cL_isNext 16 = .ok (.bipush 20, 2) := by decide +kernel
theorem dL_isNext_18 : decode cL_isNext 18 = .ok (.if_icmp .ge 33, 3) := by decide +kernel
theorem dL_isNext_21 : decode cL_isNext 21 = .ok (.aload_n 1, 1) := by decide +kernel
theorem dL_isNext_22 : decode cL_isNext 22 = .ok (.iload 4, 2) := by decide +kernel
theorem dL_isNext_24 : decode cL_isNext 24 = .ok (.aload_n 0, 1) := by decide +kernel
theorem dL_isNext_25 : decode cL_isNext 25 = .ok (.iload 4, 2) := by decide +kernel
theorem dL_isNext_27 : decode cL_isNext 27 = .ok (.invokevirtual 56, 3) := by decide +kernel
theorem dL_isNext_30 : decode cL_isNext 30 = .ok (.iastore, 1) := by decide +kernel
theorem dL_isNext_31 : decode cL_isNext 31 = .ok (.aload_n 1, 1) := by decide +kernel
theorem dL_isNext_32 : decode cL_isNext 32 = .ok (.bipush 20, 2) := by decide +kernel
theorem dL_isNext_34 : decode cL_isNext 34 = .ok (.iload 4, 2) := by decide +kernel
theorem dL_isNext_36 : decode cL_isNext 36 = .ok (.iadd, 1) := by decide +kernel
theorem dL_isNext_37 : decode cL_isNext 37 = .ok (.aload_n 0, 1) := by decide +kernel
theorem dL_isNext_38 : decode cL_isNext 38 = .ok (.iload 4, 2) := by decide +kernel
theorem dL_isNext_40 : decode cL_isNext 40 = .ok (.iconst 1, 1) := by decide +kernel
theorem dL_isNext_41 : decode cL_isNext 41 = .ok (.invokevirtual 14, 3) := by decide +kernel
theorem dL_isNext_44 : decode cL_isNext 44 = .ok (.iastore, 1) := by decide +kernel
theorem dL_isNext_45 : decode cL_isNext 45 = .ok (.iinc 4 1, 3) := by decide +kernel
theorem dL_isNext_48 : decode cL_isNext 48 = .ok (.goto (-34), 3) := by decide +kernel
theorem dL_isNext_51 : decode cL_isNext 51 = .ok (.aload_n 0, 1) := by decide +kernel
theorem dL_isNext_52 : decode cL_isNext 52 = .ok (.iconst 3, 1) := by decide +kernel
theorem dL_isNext_53 : decode cL_isNext 53 = .ok (.invokevirtual 8, 3) := by decide +kernel
theorem dL_isNext_56 : decode cL_isNext 56 = .ok (.ifCond .ne 7, 3) := by decide +kernel
theorem dL_isNext_59 : decode cL_isNext 59 = .ok (.iconst 1, 1) := by decide +kernel
theorem dL_isNext_60 : decode cL_isNext 60 = .ok (.goto 4, 3) := by decide +kernel
theorem dL_isNext_63 : decode cL_isNext 63 = .ok (.iconst 0, 1) := by decide +kernel
theorem dL_isNext_64 : decode cL_isNext 64 = .ok (.istore 4, 2) := by decide +kernel
theorem dL_isNext_66 : decode cL_isNext 66 = .ok (.aload_n 0, 1) := by decide +kernel
theorem dL_isNext_67 : decode cL_isNext 67 = .ok (.iconst 0, 1) := by decide +kernel
theorem dL_isNext_68 : decode cL_isNext 68 = .ok (.invokevirtual 8, 3) := by decide +kernel
theorem dL_isNext_71 : decode cL_isNext 71 = .ok (.iload_n 3, 1) := by decide +kernel
theorem dL_isNext_72 : decode cL_isNext 72 = .ok (.if_icmp .ne 36, 3) := by decide +kernel
theorem dL_isNext_75 : decode cL_isNext 75 = .ok (.aload_n 0, 1) := by decide +kernel
theorem dL_isNext_76 : decode cL_isNext 76 = .ok (.aload_n 0, 1) := by decide +kernel
theorem dL_isNext_77 : decode cL_isNext 77 = .ok (.iconst 1, 1) := by decide +kernel
theorem dL_isNext_78 : decode cL_isNext 78 = .ok (.invokevirtual 8, 3) := by decide +kernel
theorem dL_isNext_81 : decode cL_isNext 81 = .ok (.iconst 1, 1) := by decide +kernel
theorem dL_isNext_82 : decode cL_isNext 82 = .ok (.invokevirtual 14, 3) := by decide +kernel
theorem dL_isNext_85 : decode cL_isNext 85 = .ok (.sipush 1000, 3) := by decide +kernel
theorem dL_isNext_88 : decode cL_isNext 88 = .ok (.isub, 1) := by decide +kernel
theorem dL_isNext_89 : decode cL_isNext 89 = .ok (.istore 5, 2) := by decide +kernel
theorem dL_isNext_91 : decode cL_isNext 91 = .ok (.aload_n 0, 1) := by decide +kernel
theorem dL_isNext_92 : decode cL_isNext 92 = .ok (.iload 5, 2) := by decide +kernel
theorem dL_isNext_94 : decode cL_isNext 94 = .ok (.invokevirtual 49, 3) := by decide +kernel
theorem dL_isNext_97 : decode cL_isNext 97 = .ok (.sipush 1000, 3) := by decide +kernel
theorem dL_isNext_100 : decode cL_isNext 100 = .ok (.if_icmp .eq 5, 3) := by decide +kernel
theorem dL_isNext_103 : decode cL_isNext 103 = .ok (.iconst 0, 1) := by decide +kernel
theorem dL_isNext_104 : decode cL_isNext 104 = .ok (.ireturn, 1) := by decide +kernel
theorem dL_isNext_105 : decode cL_isNext 105 = .ok (.goto (-39), 3) := by decide +kernel
theorem dL_isNext_108 : decode cL_isNext 108 = .ok (.iconst 0, 1) := by decide +kernel
theorem dL_isNext_109 : decode cL_isNext 109 = .ok (.istore 5, 2) := by decide +kernel
theorem dL_isNext_111 : decode cL_isNext 111 = .ok (.iload 5, 2) := by decide +kernel
theorem dL_isNext_113 : decode cL_isNext 113 = .ok (.bipush 20, 2) := by decide +kernel
theorem dL_isNext_115 : decode cL_isNext 115 = .ok (.if_icmp .ge 61, 3) := by decide +kernel
theorem dL_isNext_118 : decode cL_isNext 118 = .ok (.aload_n 0, 1) := by decide +kernel
theorem dL_isNext_119 : decode cL_isNext 119 = .ok (.iload 5, 2) := by decide +kernel
theorem dL_isNext_121 : decode cL_isNext 121 = .ok (.iconst 0, 1) := by decide +kernel
theorem dL_isNext_122 : decode cL_isNext 122 = .ok (.invokevirtual 14, 3) := by decide +kernel
theorem dL_isNext_125 : decode cL_isNext 125 = .ok (.aload_n 1, 1) := by decide +kernel
theorem dL_isNext_126 : decode cL_isNext 126 = .ok (.iload 5, 2) := by decide +kernel
theorem dL_isNext_128 : decode cL_isNext 128 = .ok (.iaload, 1) := by decide +kernel
theorem dL_isNext_129 : decode cL_isNext 129 = .ok (.if_icmp .ne 39, 3) := by decide +kernel
theorem dL_isNext_132 : decode cL_isNext 132 = .ok (.iload 4, 2) := by decide +kernel
theorem dL_isNext_134 : decode cL_isNext 134 = .ok (.ifCond .eq 36, 3) := by decide +kernel
theorem dL_isNext_137 : decode cL_isNext 137 = .ok (.aload_n 0, 1) := by decide +kernel
theorem dL_isNext_138 : decode cL_isNext 138 = .ok (.iconst 0, 1) := by decide +kernel
theorem dL_isNext_139 : decode cL_isNext 139 = .ok (.iload 5, 2) := by decide +kernel
theorem dL_isNext_141 : decode cL_isNext 141 = .ok (.iconst 0, 1) := by decide +kernel
theorem dL_isNext_142 : decode cL_isNext 142 = .ok (.invokevirtual 29, 3) := by decide +kernel
theorem dL_isNext_145 : decode cL_isNext 145 = .ok (.aload_n 0, 1) := by decide +kernel
theorem dL_isNext_146 : decode cL_isNext 146 = .ok (.iconst 0, 1) := by decide +kernel
theorem dL_isNext_147 : decode cL_isNext 147 = .ok (.iload 5, 2) := by decide +kernel
theorem dL_isNext_149 : decode cL_isNext 149 = .ok (.iconst 1, 1) := by decide +kernel
theorem dL_isNext_150 : decode cL_isNext 150 = .ok (.invokevirtual 29, 3) := by decide +kernel
theorem dL_isNext_153 : decode cL_isNext 153 = .ok (.isub, 1) := by decide +kernel
theorem dL_isNext_154 : decode cL_isNext 154 = .ok (.sipush 1000, 3) := by decide +kernel
theorem dL_isNext_157 : decode cL_isNext 157 = .ok (.iadd, 1) := by decide +kernel
theorem dL_isNext_158 : decode cL_isNext 158 = .ok (.aload_n 1, 1) := by decide +kernel
theorem dL_isNext_159 : decode cL_isNext 159 = .ok (.bipush 20, 2) := by decide +kernel
theorem dL_isNext_161 : decode cL_isNext 161 = .ok (.iload 5, 2) := by decide +kernel
theorem dL_isNext_163 : decode cL_isNext 163 = .ok (.iadd, 1) := by decide +kernel
theorem dL_isNext_164 : decode cL_isNext 164 = .ok (.iaload, 1) := by decide +kernel
theorem dL_isNext_165 : decode cL_isNext 165 = .ok (.if_icmp .eq 5, 3) := by decide +kernel
theorem dL_isNext_168 : decode cL_isNext 168 = .ok (.iconst 0, 1) := by decide +kernel
theorem dL_isNext_169 : decode cL_isNext 169 = .ok (.ireturn, 1) := by decide +kernel
theorem dL_isNext_170 : decode cL_isNext 170 = .ok (.iinc 5 1, 3) := by decide +kernel
theorem dL_isNext_173 : decode cL_isNext 173 = .ok (.goto (-62), 3) := by decide +kernel
theorem dL_isNext_176 : decode cL_isNext 176 = .ok (.aload_n 0, 1) := by decide +kernel
theorem dL_isNext_177 : decode cL_isNext 177 = .ok (.invokevirtual 58, 3) := by decide +kernel
theorem dL_isNext_180 : decode cL_isNext 180 = .ok (.iload_n 2, 1) := by decide +kernel
theorem dL_isNext_181 : decode cL_isNext 181 = .ok (.if_icmp .ne 7, 3) := by decide +kernel
theorem dL_isNext_184 : decode cL_isNext 184 = .ok (.iconst 1, 1) := by decide +kernel
theorem dL_isNext_185 : decode cL_isNext 185 = .ok (.goto 4, 3) := by decide +kernel
theorem dL_isNext_188 : decode cL_isNext 188 = .ok (.iconst 0, 1) := by decide +kernel
theorem dL_isNext_189 : decode cL_isNext 189 = .ok (.ireturn, 1) := by decide +kernel
theorem dL_isBound_0 : decode cL_isBound 0 = .ok (.iconst 0, 1) := by decide +kernel
theorem dL_isBound_1 : decode cL_isBound 1 = .ok (.istore_n 1, 1) := by decide +kernel
theorem dL_isBound_2 : decode cL_isBound 2 = .ok (.bipush 100, 2) := by decide +kernel
theorem dL_isBound_4 : decode cL_isBound 4 = .ok (.istore_n 2, 1) := by decide +kernel
theorem dL_isBound_5 : decode cL_isBound 5 = .ok (.bipush (-20), 2) := by decide +kernel
theorem dL_isBound_7 : decode cL_isBound 7 = .ok (.istore_n 3, 1) := by decide +kernel
theorem dL_isBound_8 : decode cL_isBound 8 = .ok (.iload_n 3, 1) := by decide +kernel
theorem dL_isBound_9 : decode cL_isBound 9 = .ok (.bipush 20, 2) := by decide +kernel
theorem dL_isBound_11 : decode cL_isBound 11 = .ok (.if_icmp .gt 150, 3) := by decide +kernel
theorem dL_isBound_14 : decode cL_isBound 14 = .ok (.aload_n 0, 1) := by decide +kernel
theorem dL_isBound_15 : decode cL_isBound 15 = .ok (.iconst 2, 1) := by decide +kernel
theorem dL_isBound_16 : decode cL_isBound 16 = .ok (.invokevirtual 8, 3) := by decide +kernel
theorem dL_isBound_19 : decode cL_isBound 19 = .ok (.ifCond .le 142, 3) := by decide +kernel
theorem dL_isBound_22 : decode cL_isBound 22 = .ok (.iconst 0, 1) := by decide +kernel
theorem dL_isBound_23 : decode cL_isBound 23 = .ok (.istore 4, 2) := by decide +kernel
theorem dL_isBound_25 : decode cL_isBound 25 = .ok (.iconst 0, 1) := by decide +kernel
theorem dL_isBound_26 : decode cL_isBound 26 = .ok (.istore 5, 2) := by decide +kernel
theorem dL_isBound_28 : decode cL_isBound 28 = .ok (.iload 5, 2) := by decide +kernel
theorem dL_isBound_30 : decode cL_isBound 30 = .ok (.bipush 20, 2) := by decide +kernel
theorem dL_isBound_32 : decode cL_isBound 32 = .ok (.if_icmp .ge 69, 3) := by decide +kernel
theorem dL_isBound_35 : decode cL_isBound 35 = .ok (.aload_n 0, 1) := by decide +kernel
theorem dL_isBound_36 : decode cL_isBound 36 = .ok (.iconst 0, 1) := by decide +kernel
theorem dL_isBound_37 : decode cL_isBound 37 = .ok (.iload 5, 2) := by decide +kernel
theorem dL_isBound_39 : decode cL_isBound 39 = .ok (.iconst 0, 1) := by decide +kernel
theorem dL_isBound_40 : decode cL_isBound 40 = .ok (.invokevirtual 29, 3) := by decide +kernel
theorem dL_isBound_43 : decode cL_isBound 43 = .ok (.istore 6, 2) := by decide +kernel
theorem dL_isBound_45 : decode cL_isBound 45 = .ok (.iload 6, 2) := by decide +kernel
theorem dL_isBound_47 : decode cL_isBound 47 = .ok (.aload_n 0, 1) := by decide +kernel
theorem dL_isBound_48 : decode cL_isBound 48 = .ok (.iconst 0, 1) := by decide +kernel
theorem dL_isBound_49 : decode cL_isBound 49 = .ok (.iload 5, 2) := by decide +kernel
theorem dL_isBound_51 : decode cL_isBound 51 = .ok (.iconst 1, 1) := by decide +kernel
theorem dL_isBound_52 : decode cL_isBound 52 = .ok (.invokevirtual 29, 3) := by decide +kernel
theorem dL_isBound_55 : decode cL_isBound 55 = .ok (.isub, 1) := by decide +kernel
theorem dL_isBound_56 : decode cL_isBound 56 = .ok (.iload_n 3, 1) := by decide +kernel
theorem dL_isBound_57 : decode cL_isBound 57 = .ok (.if_icmp .gt 7, 3) := by decide +kernel
theorem dL_isBound_60 : decode cL_isBound 60 = .ok (.iconst 1, 1) := by decide +kernel
theorem dL_isBound_61 : decode cL_isBound 61 = .ok (.goto 4, 3) := by decide +kernel
theorem dL_isBound_64 : decode cL_isBound 64 = .ok (.iconst 0, 1) := by decide +kernel
theorem dL_isBound_65 : decode cL_isBound 65 = .ok (.istore 7, 2) := by decide +kernel
theorem dL_isBound_67 : decode cL_isBound 67 = .ok (.iload 4, 2) := by decide +kernel
theorem dL_isBound_69 : decode cL_isBound 69 = .ok (.iload 7, 2) := by decide +kernel
theorem dL_isBound_71 : decode cL_isBound 71 = .ok (.iload 6, 2) := by decide +kernel
theorem dL_isBound_73 : decode cL_isBound 73 = .ok (.sipush 1000, 3) := by decide +kernel
theorem dL_isBound_76 : decode cL_isBound 76 = .ok (.if_icmp .gt 7, 3) := by decide +kernel
theorem dL_isBound_79 : decode cL_isBound 79 = .ok (.iconst 1, 1) := by decide +kernel
theorem dL_isBound_80 : decode cL_isBound 80 = .ok (.goto 4, 3) := by decide +kernel
theorem dL_isBound_83 : decode cL_isBound 83 = .ok (.iconst 0, 1) := by decide +kernel
theorem dL_isBound_84 : decode cL_isBound 84 = .ok (.if_icmp .ne 7, 3) := by decide +kernel
theorem dL_isBound_87 : decode cL_isBound 87 = .ok (.iconst 0, 1) := by decide +kernel
theorem dL_isBound_88 : decode cL_isBound 88 = .ok (.goto 4, 3) := by decide +kernel
theorem dL_isBound_91 : decode cL_isBound 91 = .ok (.iconst 1, 1) := by decide +kernel
theorem dL_isBound_92 : decode cL_isBound 92 = .ok (.iadd, 1) := by decide +kernel
theorem dL_isBound_93 : decode cL_isBound 93 = .ok (.istore 4, 2) := by decide +kernel
theorem dL_isBound_95 : decode cL_isBound 95 = .ok (.iinc 5 1, 3) := by decide +kernel
theorem dL_isBound_98 : decode cL_isBound 98 = .ok (.goto (-70), 3) := by decide +kernel
theorem dL_isBound_101 : decode cL_isBound 101 = .ok (.iload 4, 2) := by decide +kernel
theorem dL_isBound_103 : decode cL_isBound 103 = .ok (.iload_n 2, 1) := by decide +kernel
theorem dL_isBound_104 : decode cL_isBound 104 = .ok (.if_icmp .ne 18, 3) := by decide +kernel
theorem dL_isBound_107 : decode cL_isBound 107 = .ok (.iload_n 3, 1) := by decide +kernel
theorem dL_isBound_108 : decode cL_isBound 108 = .ok (.invokestatic 26, 3) := by decide +kernel
theorem dL_isBound_111 : decode cL_isBound 111 = .ok (.iload_n 1, 1) := by decide +kernel
theorem dL_isBound_112 : decode cL_isBound 112 = .ok (.invokestatic 26, 3) := by decide +kernel
theorem dL_isBound_115 : decode cL_isBound 115 = .ok (.if_icmp .ge 7, 3) := by decide +kernel
theorem dL_isBound_118 : decode cL_isBound 118 = .ok (.iconst 1, 1) := by decide +kernel
theorem dL_isBound_119 : decode cL_isBound 119 = .ok (.goto 4, 3) := by decide +kernel
theorem dL_isBound_122 : decode cL_isBound 122 = .ok (.iconst 0, 1) := by decide +kernel
theorem dL_isBound_123 : decode cL_isBound 123 = .ok (.istore 5, 2) := by decide +kernel
theorem dL_isBound_125 : decode cL_isBound 125 = .ok (.iload 4, 2) := by decide +kernel
theorem dL_isBound_127 : decode cL_isBound 127 = .ok (.iload_n 2, 1) := by decide +kernel
theorem dL_isBound_128 : decode cL_isBound 128 = .ok (.if_icmp .lt 8, 3) := by decide +kernel
theorem dL_isBound_131 : decode cL_isBound 131 = .ok (.iload 5, 2) := by decide +kernel
theorem dL_isBound_133 : decode cL_isBound 133 = .ok (.ifCond .eq 7, 3) := by decide +kernel
theorem dL_isBound_136 : decode cL_isBound 136 = .ok (.iload_n 3, 1) := by decide +kernel
theorem dL_isBound_137 : decode cL_isBound 137 = .ok (.goto 4, 3) := by decide +kernel
theorem dL_isBound_140 : decode cL_isBound 140 = .ok (.iload_n 1, 1) := by decide +kernel
theorem dL_isBound_141 : decode cL_isBound 141 = .ok (.istore_n 1, 1) := by decide +kernel
theorem dL_isBound_142 : decode cL_isBound 142 = .ok (.iload 4, 2) := by decide +kernel
theorem dL_isBound_144 : decode cL_isBound 144 = .ok (.iload_n 2, 1) := by decide +kernel
theorem dL_isBound_145 : decode cL_isBound 145 = .ok (.if_icmp .ge 8, 3) := by decide +kernel
theorem dL_isBound_148 : decode cL_isBound 148 = .ok (.iload 4, 2) := by decide +kernel
theorem dL_isBound_150 : decode cL_isBound 150 = .ok (.goto 4, 3) := by decide +kernel
theorem dL_isBound_153 : decode cL_isBound 153 = .ok (.iload_n 2, 1) := by decide +kernel
theorem dL_isBound_154 : decode cL_isBound 154 = .ok (.istore_n 2, 1) := by decide +kernel
theorem dL_isBound_155 : decode cL_isBound 155 = .ok (.iinc 3 1, 3) := by decide +kernel
theorem dL_isBound_158 : decode cL_isBound 158 = .ok (.goto (-150), 3) := by decide +kernel
theorem dL_isBound_161 : decode cL_isBound 161 = .ok (.aload_n 0, 1) := by decide +kernel
theorem dL_isBound_162 : decode cL_isBound 162 = .ok (.iconst 2, 1) := by decide +kernel
theorem dL_isBound_163 : decode cL_isBound 163 = .ok (.invokevirtual 8, 3) := by decide +kernel
theorem dL_isBound_166 : decode cL_isBound 166 = .ok (.ifCond .ne 7, 3) := by decide +kernel
theorem dL_isBound_169 : decode cL_isBound 169 = .ok (.iconst 1, 1) := by decide +kernel
theorem dL_isBound_170 : decode cL_isBound 170 = .ok (.goto 4, 3) := by decide +kernel
theorem dL_isBound_173 : decode cL_isBound 173 = .ok (.iconst 0, 1) := by decide +kernel
theorem dL_isBound_174 : decode cL_isBound 174 = .ok (.istore_n 3, 1) := by decide +kernel
theorem dL_isBound_175 : decode cL_isBound 175 = .ok (.aload_n 0, 1) := by decide +kernel
theorem dL_isBound_176 : decode cL_isBound 176 = .ok (.iconst 0, 1) := by decide +kernel
theorem dL_isBound_177 : decode cL_isBound 177 = .ok (.invokevirtual 61, 3) := by decide +kernel
theorem dL_isBound_180 : decode cL_isBound 180 = .ok (.istore 4, 2) := by decide +kernel
theorem dL_isBound_182 : decode cL_isBound 182 = .ok (.aload_n 0, 1) := by decide +kernel
theorem dL_isBound_183 : decode cL_isBound 183 = .ok (.iconst 1, 1) := by decide +kernel
theorem dL_isBound_184 : decode cL_isBound 184 = .ok (.invokevirtual 61, 3) := by decide +kernel
theorem dL_isBound_187 : decode cL_isBound 187 = .ok (.istore 5, 2) := by decide +kernel
theorem dL_isBound_189 : decode cL_isBound 189 = .ok (.aload_n 0, 1) := by decide +kernel
theorem dL_isBound_190 : decode cL_isBound 190 = .ok (.iconst 2, 1) := by decide +kernel
theorem dL_isBound_191 : decode cL_isBound 191 = .ok (.invokevirtual 8, 3) := by decide +kernel
theorem dL_isBound_194 : decode cL_isBound 194 = .ok (.iconst 2, 1) := by decide +kernel
theorem dL_isBound_195 : decode cL_isBound 195 = .ok (.if_icmp .ge 25, 3) := by decide +kernel
theorem dL_isBound_198 : decode cL_isBound 198 = .ok (.iload 4, 2) := by decide +kernel
theorem dL_isBound_200 : decode cL_isBound 200 = .ok (.bipush (-5), 2) := by decide +kernel
theorem dL_isBound_202 : decode cL_isBound 202 = .ok (.if_icmp .ne 14, 3) := by decide +kernel
theorem dL_isBound_205 : decode cL_isBound 205 = .ok (.iload 5, 2) := by decide +kernel
theorem dL_isBound_207 : decode cL_isBound 207 = .ok (.bipush (-5), 2) := by decide +kernel
theorem dL_isBound_209 : decode cL_isBound 209 = .ok (.if_icmp .ne 7, 3) := by decide +kernel
theorem dL_isBound_212 : decode cL_isBound 212 = .ok (.iconst 1, 1) := by decide +kernel
theorem dL_isBound_213 : decode cL_isBound 213 = .ok (.goto 37, 3) := by decide +kernel
theorem dL_isBound_216 : decode cL_isBound 216 = .ok (.iconst 0, 1) := by decide +kernel
theorem dL_isBound_217 : decode cL_isBound 217 = .ok (.goto 33, 3) := by decide +kernel
theorem dL_isBound_220 : decode cL_isBound 220 = .ok (.iload 4, 2) := by decide +kernel
theorem dL_isBound_222 : decode cL_isBound 222 = .ok (.ifCond .lt 27, 3) := by decide +kernel
theorem dL_isBound_225 : decode cL_isBound 225 = .ok (.iload 4, 2) := by decide +kernel
theorem dL_isBound_227 : decode cL_isBound 227 = .ok (.bipush 100, 2) := by decide +kernel
theorem dL_isBound_229 : decode cL_isBound 229 = .ok (.if_icmp .gt 20, 3) := by decide +kernel
theorem dL_isBound_232 : decode cL_isBound 232 = .ok (.iload 5, 2) := by decide +kernel
theorem dL_isBound_234 : decode cL_isBound 234 = .ok (.ifCond .lt 15, 3) := by decide +kernel
theorem dL_isBound_237 : decode cL_isBound 237 = .ok (.iload 5, 2) := by decide +kernel
theorem dL_isBound_239 : decode cL_isBound 239 = .ok (.sipush 1600, 3) := by decide +kernel
theorem dL_isBound_242 : decode cL_isBound 242 = .ok (.if_icmp .gt 7, 3) := by decide +kernel
theorem dL_isBound_245 : decode cL_isBound 245 = .ok (.iconst 1, 1) := by decide +kernel
theorem dL_isBound_246 : decode cL_isBound 246 = .ok (.goto 4, 3) := by decide +kernel
theorem dL_isBound_249 : decode cL_isBound 249 = .ok (.iconst 0, 1) := by decide +kernel
theorem dL_isBound_250 : decode cL_isBound 250 = .ok (.istore 6, 2) := by decide +kernel
theorem dL_isBound_252 : decode cL_isBound 252 = .ok (.iload 6, 2) := by decide +kernel
theorem dL_isBound_254 : decode cL_isBound 254 = .ok (.ifCond .eq 47, 3) := by decide +kernel
theorem dL_isBound_257 : decode cL_isBound 257 = .ok (.aload_n 0, 1) := by decide +kernel
theorem dL_isBound_258 : decode cL_isBound 258 = .ok (.iconst 0, 1) := by decide +kernel
theorem dL_isBound_259 : decode cL_isBound 259 = .ok (.invokevirtual 36, 3) := by decide +kernel
theorem dL_isBound_262 : decode cL_isBound 262 = .ok (.iload_n 3, 1) := by decide +kernel
theorem dL_isBound_263 : decode cL_isBound 263 = .ok (.ifCond .eq 8, 3) := by decide +kernel
theorem dL_isBound_266 : decode cL_isBound 266 = .ok (.bipush (-5), 2) := by decide +kernel
theorem dL_isBound_268 : decode cL_isBound 268 = .ok (.goto 8, 3) := by decide +kernel
theorem dL_isBound_271 : decode cL_isBound 271 = .ok (.iload_n 1, 1) := by decide +kernel
theorem dL_isBound_272 : decode cL_isBound 272 = .ok (.sipush 1000, 3) := by decide +kernel
theorem dL_isBound_275 : decode cL_isBound 275 = .ok (.iadd, 1) := by decide +kernel
theorem dL_isBound_276 : decode cL_isBound 276 = .ok (.if_icmp .ne 25, 3) := by decide +kernel
theorem dL_isBound_279 : decode cL_isBound 279 = .ok (.aload_n 0, 1) := by decide +kernel
theorem dL_isBound_280 : decode cL_isBound 280 = .ok (.iconst 1, 1) := by decide +kernel
theorem dL_isBound_281 : decode cL_isBound 281 = .ok (.invokevirtual 36, 3) := by decide +kernel
theorem dL_isBound_284 : decode cL_isBound 284 = .ok (.iload_n 3, 1) := by decide +kernel
theorem dL_isBound_285 : decode cL_isBound 285 = .ok (.ifCond .eq 8, 3) := by decide +kernel
theorem dL_isBound_288 : decode cL_isBound 288 = .ok (.bipush (-5), 2) := by decide +kernel
theorem dL_isBound_290 : decode cL_isBound 290 = .ok (.goto 4, 3) := by decide +kernel
theorem dL_isBound_293 : decode cL_isBound 293 = .ok (.iload_n 2, 1) := by decide +kernel
theorem dL_isBound_294 : decode cL_isBound 294 = .ok (.if_icmp .ne 7, 3) := by decide +kernel
theorem dL_isBound_297 : decode cL_isBound 297 = .ok (.iconst 1, 1) := by decide +kernel
theorem dL_isBound_298 : decode cL_isBound 298 = .ok (.goto 4, 3) := by decide +kernel
theorem dL_isBound_301 : decode cL_isBound 301 = .ok (.iconst 0, 1) := by decide +kernel
theorem dL_isBound_302 : decode cL_isBound 302 = .ok (.ireturn, 1) := by decide +kernel
theorem dL_does_0 : decode cL_does 0 = .ok (.iload_n 2, 1) := by decide +kernel
theorem dL_does_1 : decode cL_does 1 = .ok (.bipush 20, 2) := by decide +kernel
theorem dL_does_3 : decode cL_does 3 = .ok (.invokestatic 64, 3) := by decide +kernel
theorem dL_does_6 : decode cL_does 6 = .ok (.istore 4, 2) := by decide +kernel
theorem dL_does_8 : decode cL_does 8 = .ok (.iload_n 1, 1) := by decide +kernel
theorem dL_does_9 : decode cL_does 9 = .ok (.bipush 20, 2) := by decide +kernel
theorem dL_does_11 : decode cL_does 11 = .ok (.invokestatic 64, 3) := by decide +kernel
theorem dL_does_14 : decode cL_does 14 = .ok (.tableswitch 620 0 8 #[50, 126, 238, 291, 421, 421, 421, 551, 614], 50) := by decide +kernel
theorem dL_does_64 : decode cL_does 64 = .ok (.aload_n 0, 1) := by decide +kernel
theorem dL_does_65 : decode cL_does 65 = .ok (.iload 4, 2) := by decide +kernel
theorem dL_does_67 : decode cL_does 67 = .ok (.iconst 0, 1) := by decide +kernel
theorem dL_does_68 : decode cL_does 68 = .ok (.invokevirtual 14, 3) := by decide +kernel
theorem dL_does_71 : decode cL_does 71 = .ok (.sipush 1000, 3) := by decide +kernel
theorem dL_does_74 : decode cL_does 74 = .ok (.isub, 1) := by decide +kernel
theorem dL_does_75 : decode cL_does 75 = .ok (.istore 5, 2) := by decide +kernel
theorem dL_does_77 : decode cL_does 77 = .ok (.iload_n 2, 1) := by decide +kernel
theorem dL_does_78 : decode cL_does 78 = .ok (.iconst 5, 1) := by decide +kernel
theorem dL_does_79 : decode cL_does 79 = .ok (.ishr, 1) := by decide +kernel
theorem dL_does_80 : decode cL_does 80 = .ok (.bipush 81, 2) := by decide +kernel
theorem dL_does_82 : decode cL_does 82 = .ok (.invokestatic 64, 3) := by decide +kernel
theorem dL_does_85 : decode cL_does 85 = .ok (.bipush 40, 2) := by decide +kernel
theorem dL_does_87 : decode cL_does 87 = .ok (.isub, 1) := by decide +kernel
theorem dL_does_88 : decode cL_does 88 = .ok (.istore 6, 2) := by decide +kernel
theorem dL_does_90 : decode cL_does 90 = .ok (.aload_n 0, 1) := by decide +kernel
theorem dL_does_91 : decode cL_does 91 = .ok (.iload 4, 2) := by decide +kernel
theorem dL_does_93 : decode cL_does 93 = .ok (.iload 6, 2) := by decide +kernel
theorem dL_does_95 : decode cL_does 95 = .ok (.invokevirtual 67, 3) := by decide +kernel
theorem dL_does_98 : decode cL_does 98 = .ok (.iload 4, 2) := by decide +kernel
theorem dL_does_100 : decode cL_does 100 = .ok (.aload_n 0, 1) := by decide +kernel
theorem dL_does_101 : decode cL_does 101 = .ok (.iconst 1, 1) := by decide +kernel
theorem dL_does_102 : decode cL_does 102 = .ok (.invokevirtual 8, 3) := by decide +kernel
theorem dL_does_105 : decode cL_does 105 = .ok (.if_icmp .ge 8, 3) := by decide +kernel
theorem dL_does_108 : decode cL_does 108 = .ok (.bipush (-4), 2) := by decide +kernel
theorem dL_does_110 : decode cL_does 110 = .ok (.goto 21, 3) := by decide +kernel
theorem dL_does_113 : decode cL_does 113 = .ok (.iload 5, 2) := by decide +kernel
theorem dL_does_115 : decode cL_does 115 = .ok (.iload 6, 2) := by decide +kernel
theorem dL_does_117 : decode cL_does 117 = .ok (.if_icmp .ne 8, 3) := by decide +kernel
theorem dL_does_120 : decode cL_does 120 = .ok (.bipush (-5), 2) := by decide +kernel
theorem dL_does_122 : decode cL_does 122 = .ok (.goto 9, 3) := by decide +kernel
theorem dL_does_125 : decode cL_does 125 = .ok (.iload 5, 2) := by decide +kernel
theorem dL_does_127 : decode cL_does 127 = .ok (.sipush 1000, 3) := by decide +kernel
theorem dL_does_130 : decode cL_does 130 = .ok (.iadd, 1) := by decide +kernel
theorem dL_does_131 : decode cL_does 131 = .ok (.if_icmp .ne 7, 3) := by decide +kernel
theorem dL_does_134 : decode cL_does 134 = .ok (.iconst 1, 1) := by decide +kernel
theorem dL_does_135 : decode cL_does 135 = .ok (.goto 4, 3) := by decide +kernel
theorem dL_does_138 : decode cL_does 138 = .ok (.iconst 0, 1) := by decide +kernel
theorem dL_does_139 : decode cL_does 139 = .ok (.ireturn, 1) := by decide +kernel
theorem dL_does_140 : decode cL_does 140 = .ok (.aload_n 0, 1) := by decide +kernel
theorem dL_does_141 : decode cL_does 141 = .ok (.iconst 3, 1) := by decide +kernel
theorem dL_does_142 : decode cL_does 142 = .ok (.invokevirtual 8, 3) := by decide +kernel
theorem dL_does_145 : decode cL_does 145 = .ok (.istore 7, 2) := by decide +kernel
theorem dL_does_147 : decode cL_does 147 = .ok (.aload_n 0, 1) := by decide +kernel
theorem dL_does_148 : decode cL_does 148 = .ok (.iload 4, 2) := by decide +kernel
theorem dL_does_150 : decode cL_does 150 = .ok (.iload_n 2, 1) := by decide +kernel
theorem dL_does_151 : decode cL_does 151 = .ok (.iconst 5, 1) := by decide +kernel
theorem dL_does_152 : decode cL_does 152 = .ok (.ishr, 1) := by decide +kernel
theorem dL_does_153 : decode cL_does 153 = .ok (.bipush 81, 2) := by decide +kernel
theorem dL_does_155 : decode cL_does 155 = .ok (.invokestatic 64, 3) := by decide +kernel
theorem dL_does_158 : decode cL_does 158 = .ok (.bipush 40, 2) := by decide +kernel
theorem dL_does_160 : decode cL_does 160 = .ok (.isub, 1) := by decide +kernel
theorem dL_does_161 : decode cL_does 161 = .ok (.iload_n 2, 1) := by decide +kernel
theorem dL_does_162 : decode cL_does 162 = .ok (.bipush 12, 2) := by decide +kernel
theorem dL_does_164 : decode cL_does 164 = .ok (.ishr, 1) := by decide +kernel
theorem dL_does_165 : decode cL_does 165 = .ok (.bipush 41, 2) := by decide +kernel
theorem dL_does_167 : decode cL_does 167 = .ok (.invokestatic 64, 3) := by decide +kernel
theorem dL_does_170 : decode cL_does 170 = .ok (.bipush 20, 2) := by decide +kernel
theorem dL_does_172 : decode cL_does 172 = .ok (.isub, 1) := by decide +kernel
theorem dL_does_173 : decode cL_does 173 = .ok (.iconst 1, 1) := by decide +kernel
theorem dL_does_174 : decode cL_does 174 = .ok (.iload_n 2, 1) := by decide +kernel
theorem dL_does_175 : decode cL_does 175 = .ok (.bipush 18, 2) := by decide +kernel
theorem dL_does_177 : decode cL_does 177 = .ok (.ishr, 1) := by decide +kernel
theorem dL_does_178 : decode cL_does 178 = .ok (.bipush 9, 2) := by decide +kernel
theorem dL_does_180 : decode cL_does 180 = .ok (.invokestatic 64, 3) := by decide +kernel
theorem dL_does_183 : decode cL_does 183 = .ok (.iadd, 1) := by decide +kernel
theorem dL_does_184 : decode cL_does 184 = .ok (.invokevirtual 70, 3) := by decide +kernel
theorem dL_does_187 : decode cL_does 187 = .ok (.istore 8, 2) := by decide +kernel
theorem dL_does_189 : decode cL_does 189 = .ok (.iload 8, 2) := by decide +kernel
theorem dL_does_191 : decode cL_does 191 = .ok (.iload 7, 2) := by decide +kernel
theorem dL_does_193 : decode cL_does 193 = .ok (.iconst 5, 1) := by decide +kernel
theorem dL_does_194 : decode cL_does 194 = .ok (.if_icmp .ne 8, 3) := by decide +kernel
theorem dL_does_197 : decode cL_does 197 = .ok (.bipush (-3), 2) := by decide +kernel
theorem dL_does_199 : decode cL_does 199 = .ok (.goto 5, 3) := by decide +kernel
theorem dL_does_202 : decode cL_does 202 = .ok (.iload 7, 2) := by decide +kernel
theorem dL_does_204 : decode cL_does 204 = .ok (.if_icmp .ne 46, 3) := by decide +kernel
theorem dL_does_207 : decode cL_does 207 = .ok (.iload 7, 2) := by decide +kernel
theorem dL_does_209 : decode cL_does 209 = .ok (.iconst 5, 1) := by decide +kernel
theorem dL_does_210 : decode cL_does 210 = .ok (.if_icmp .eq 36, 3) := by decide +kernel
theorem dL_does_213 : decode cL_does 213 = .ok (.aload_n 0, 1) := by decide +kernel
theorem dL_does_214 : decode cL_does 214 = .ok (.iload 7, 2) := by decide +kernel
theorem dL_does_216 : decode cL_does 216 = .ok (.iconst 0, 1) := by decide +kernel
theorem dL_does_217 : decode cL_does 217 = .ok (.invokevirtual 18, 3) := by decide +kernel
theorem dL_does_220 : decode cL_does 220 = .ok (.iload 4, 2) := by decide +kernel
theorem dL_does_222 : decode cL_does 222 = .ok (.if_icmp .ne 28, 3) := by decide +kernel
theorem dL_does_225 : decode cL_does 225 = .ok (.aload_n 0, 1) := by decide +kernel
theorem dL_does_226 : decode cL_does 226 = .ok (.iload 7, 2) := by decide +kernel
theorem dL_does_228 : decode cL_does 228 = .ok (.iconst 3, 1) := by decide +kernel
theorem dL_does_229 : decode cL_does 229 = .ok (.invokevirtual 18, 3) := by decide +kernel
theorem dL_does_232 : decode cL_does 232 = .ok (.iconst 1, 1) := by decide +kernel
theorem dL_does_233 : decode cL_does 233 = .ok (.iload_n 2, 1) := by decide +kernel
theorem dL_does_234 : decode cL_does 234 = .ok (.bipush 18, 2) := by decide +kernel
theorem dL_does_236 : decode cL_does 236 = .ok (.ishr, 1) := by decide +kernel
theorem dL_does_237 : decode cL_does 237 = .ok (.bipush 9, 2) := by decide +kernel
theorem dL_does_239 : decode cL_does 239 = .ok (.invokestatic 64, 3) := by decide +kernel
theorem dL_does_242 : decode cL_does 242 = .ok (.iadd, 1) := by decide +kernel
theorem dL_does_243 : decode cL_does 243 = .ok (.if_icmp .ne 7, 3) := by decide +kernel
theorem dL_does_246 : decode cL_does 246 = .ok (.iconst 1, 1) := by decide +kernel
theorem dL_does_247 : decode cL_does 247 = .ok (.goto 4, 3) := by decide +kernel
theorem dL_does_250 : decode cL_does 250 = .ok (.iconst 0, 1) := by decide +kernel
theorem dL_does_251 : decode cL_does 251 = .ok (.ireturn, 1) := by decide +kernel
theorem dL_does_252 : decode cL_does 252 = .ok (.aload_n 0, 1) := by decide +kernel
theorem dL_does_253 : decode cL_does 253 = .ok (.iconst 3, 1) := by decide +kernel
theorem dL_does_254 : decode cL_does 254 = .ok (.invokevirtual 8, 3) := by decide +kernel
theorem dL_does_257 : decode cL_does 257 = .ok (.istore 9, 2) := by decide +kernel
theorem dL_does_259 : decode cL_does 259 = .ok (.iload_n 2, 1) := by decide +kernel
theorem dL_does_260 : decode cL_does 260 = .ok (.bipush 6, 2) := by decide +kernel
theorem dL_does_262 : decode cL_does 262 = .ok (.invokestatic 64, 3) := by decide +kernel
theorem dL_does_265 : decode cL_does 265 = .ok (.istore 10, 2) := by decide +kernel
theorem dL_does_267 : decode cL_does 267 = .ok (.iload_n 1, 1) := by decide +kernel
theorem dL_does_268 : decode cL_does 268 = .ok (.iconst 5, 1) := by decide +kernel
theorem dL_does_269 : decode cL_does 269 = .ok (.ishr, 1) := by decide +kernel
theorem dL_does_270 : decode cL_does 270 = .ok (.iconst 1, 1) := by decide +kernel
theorem dL_does_271 : decode cL_does 271 = .ok (.iand, 1) := by decide +kernel
theorem dL_does_272 : decode cL_does 272 = .ok (.ifCond .eq 27, 3) := by decide +kernel
theorem dL_does_275 : decode cL_does 275 = .ok (.aload_n 0, 1) := by decide +kernel
theorem dL_does_276 : decode cL_does 276 = .ok (.iload 10, 2) := by decide +kernel
theorem dL_does_278 : decode cL_does 278 = .ok (.invokevirtual 74, 3) := by decide +kernel
theorem dL_does_281 : decode cL_does 281 = .ok (.iload 10, 2) := by decide +kernel
theorem dL_does_283 : decode cL_does 283 = .ok (.iload 9, 2) := by decide +kernel
theorem dL_does_285 : decode cL_does 285 = .ok (.if_icmp .ge 10, 3) := by decide +kernel
theorem dL_does_288 : decode cL_does 288 = .ok (.iload 9, 2) := by decide +kernel
theorem dL_does_290 : decode cL_does 290 = .ok (.iconst 1, 1) := by decide +kernel
theorem dL_does_291 : decode cL_does 291 = .ok (.isub, 1) := by decide +kernel
theorem dL_does_292 : decode cL_does 292 = .ok (.goto 4, 3) := by decide +kernel
theorem dL_does_295 : decode cL_does 295 = .ok (.iconst (-1), 1) := by decide +kernel
theorem dL_does_296 : decode cL_does 296 = .ok (.if_icmp .ne 7, 3) := by decide +kernel
theorem dL_does_299 : decode cL_does 299 = .ok (.iconst 1, 1) := by decide +kernel
theorem dL_does_300 : decode cL_does 300 = .ok (.goto 4, 3) := by decide +kernel
theorem dL_does_303 : decode cL_does 303 = .ok (.iconst 0, 1) := by decide +kernel
theorem dL_does_304 : decode cL_does 304 = .ok (.ireturn, 1) := by decide +kernel
theorem dL_does_305 : decode cL_does 305 = .ok (.iload_n 1, 1) := by decide +kernel
theorem dL_does_306 : decode cL_does 306 = .ok (.iconst 5, 1) := by decide +kernel
theorem dL_does_307 : decode cL_does 307 = .ok (.ishr, 1) := by decide +kernel
theorem dL_does_308 : decode cL_does 308 = .ok (.iconst 4, 1) := by decide +kernel
theorem dL_does_309 : decode cL_does 309 = .ok (.invokestatic 64, 3) := by decide +kernel
theorem dL_does_312 : decode cL_does 312 = .ok (.istore 11, 2) := by decide +kernel
theorem dL_does_314 : decode cL_does 314 = .ok (.iload 11, 2) := by decide +kernel
theorem dL_does_316 : decode cL_does 316 = .ok (.ifCond .ne 12, 3) := by decide +kernel
theorem dL_does_319 : decode cL_does 319 = .ok (.iload_n 2, 1) := by decide +kernel
theorem dL_does_320 : decode cL_does 320 = .ok (.bipush 10, 2) := by decide +kernel
theorem dL_does_322 : decode cL_does 322 = .ok (.invokestatic 64, 3) := by decide +kernel
theorem dL_does_325 : decode cL_does 325 = .ok (.goto 44, 3) := by decide +kernel
theorem dL_does_328 : decode cL_does 328 = .ok (.iload 11, 2) := by decide +kernel
theorem dL_does_330 : decode cL_does 330 = .ok (.iconst 1, 1) := by decide +kernel
theorem dL_does_331 : decode cL_does 331 = .ok (.if_icmp .ne 12, 3) := by decide +kernel
theorem dL_does_334 : decode cL_does 334 = .ok (.iload_n 2, 1) := by decide +kernel
theorem dL_does_335 : decode cL_does 335 = .ok (.bipush 101, 2) := by decide +kernel
theorem dL_does_337 : decode cL_does 337 = .ok (.invokestatic 64, 3) := by decide +kernel
theorem dL_does_340 : decode cL_does 340 = .ok (.goto 29, 3) := by decide +kernel
theorem dL_does_343 : decode cL_does 343 = .ok (.iload 11, 2) := by decide +kernel
theorem dL_does_345 : decode cL_does 345 = .ok (.iconst 2, 1) := by decide +kernel
theorem dL_does_346 : decode cL_does 346 = .ok (.if_icmp .ne 15, 3) := by decide +kernel
theorem dL_does_349 : decode cL_does 349 = .ok (.iload_n 2, 1) := by decide +kernel
theorem dL_does_350 : decode cL_does 350 = .ok (.bipush 41, 2) := by decide +kernel
theorem dL_does_352 : decode cL_does 352 = .ok (.invokestatic 64, 3) := by decide +kernel
theorem dL_does_355 : decode cL_does 355 = .ok (.bipush 20, 2) := by decide +kernel
theorem dL_does_357 : decode cL_does 357 = .ok (.isub, 1) := by decide +kernel
theorem dL_does_358 : decode cL_does 358 = .ok (.goto 11, 3) := by decide +kernel
theorem dL_does_361 : decode cL_does 361 = .ok (.iconst 1, 1) := by decide +kernel
theorem dL_does_362 : decode cL_does 362 = .ok (.iload_n 2, 1) := by decide +kernel
theorem dL_does_363 : decode cL_does 363 = .ok (.bipush 9, 2) := by decide +kernel
theorem dL_does_365 : decode cL_does 365 = .ok (.invokestatic 64, 3) := by decide +kernel
theorem dL_does_368 : decode cL_does 368 = .ok (.iadd, 1) := by decide +kernel
theorem dL_does_369 : decode cL_does 369 = .ok (.istore 12, 2) := by decide +kernel
theorem dL_does_371 : decode cL_does 371 = .ok (.aload_n 0, 1) := by decide +kernel
theorem dL_does_372 : decode cL_does 372 = .ok (.bipush 12, 2) := by decide +kernel
theorem dL_does_374 : decode cL_does 374 = .ok (.iload 11, 2) := by decide +kernel
theorem dL_does_376 : decode cL_does 376 = .ok (.iadd, 1) := by decide +kernel
theorem dL_does_377 : decode cL_does 377 = .ok (.invokevirtual 8, 3) := by decide +kernel
theorem dL_does_380 : decode cL_does 380 = .ok (.istore 13, 2) := by decide +kernel
theorem dL_does_382 : decode cL_does 382 = .ok (.aload_n 0, 1) := by decide +kernel
theorem dL_does_383 : decode cL_does 383 = .ok (.iload 11, 2) := by decide +kernel
theorem dL_does_385 : decode cL_does 385 = .ok (.iload 12, 2) := by decide +kernel
theorem dL_does_387 : decode cL_does 387 = .ok (.invokevirtual 77, 3) := by decide +kernel
theorem dL_does_390 : decode cL_does 390 = .ok (.iload 13, 2) := by decide +kernel
theorem dL_does_392 : decode cL_does 392 = .ok (.iload 12, 2) := by decide +kernel
theorem dL_does_394 : decode cL_does 394 = .ok (.sipush 1000, 3) := by decide +kernel
theorem dL_does_397 : decode cL_does 397 = .ok (.iadd, 1) := by decide +kernel
theorem dL_does_398 : decode cL_does 398 = .ok (.if_icmp .ne 8, 3) := by decide +kernel
theorem dL_does_401 : decode cL_does 401 = .ok (.bipush (-5), 2) := by decide +kernel
theorem dL_does_403 : decode cL_does 403 = .ok (.goto 5, 3) := by decide +kernel
theorem dL_does_406 : decode cL_does 406 = .ok (.iload 13, 2) := by decide +kernel
theorem dL_does_408 : decode cL_does 408 = .ok (.if_icmp .ne 25, 3) := by decide +kernel
theorem dL_does_411 : decode cL_does 411 = .ok (.aload_n 0, 1) := by decide +kernel
theorem dL_does_412 : decode cL_does 412 = .ok (.bipush 12, 2) := by decide +kernel
theorem dL_does_414 : decode cL_does 414 = .ok (.iload 11, 2) := by decide +kernel
theorem dL_does_416 : decode cL_does 416 = .ok (.iadd, 1) := by decide +kernel
theorem dL_does_417 : decode cL_does 417 = .ok (.invokevirtual 8, 3) := by decide +kernel
theorem dL_does_420 : decode cL_does 420 = .ok (.iload 12, 2) := by decide +kernel
theorem dL_does_422 : decode cL_does 422 = .ok (.sipush 1000, 3) := by decide +kernel
theorem dL_does_425 : decode cL_does 425 = .ok (.iadd, 1) := by decide +kernel
theorem dL_does_426 : decode cL_does 426 = .ok (.if_icmp .ne 7, 3) := by decide +kernel
theorem dL_does_429 : decode cL_does 429 = .ok (.iconst 1, 1) := by decide +kernel
theorem dL_does_430 : decode cL_does 430 = .ok (.goto 4, 3) := by decide +kernel
theorem dL_does_433 : decode cL_does 433 = .ok (.iconst 0, 1) := by decide +kernel
theorem dL_does_434 : decode cL_does 434 = .ok (.ireturn, 1) := by decide +kernel
theorem dL_does_435 : decode cL_does 435 = .ok (.iload_n 2, 1) := by decide +kernel
theorem dL_does_436 : decode cL_does 436 = .ok (.iconst 3, 1) := by decide +kernel
theorem dL_does_437 : decode cL_does 437 = .ok (.iand, 1) := by decide +kernel
theorem dL_does_438 : decode cL_does 438 = .ok (.istore 14, 2) := by decide +kernel
theorem dL_does_440 : decode cL_does 440 = .ok (.aload_n 0, 1) := by decide +kernel
theorem dL_does_441 : decode cL_does 441 = .ok (.iload 14, 2) := by decide +kernel
theorem dL_does_443 : decode cL_does 443 = .ok (.iconst 0, 1) := by decide +kernel
theorem dL_does_444 : decode cL_does 444 = .ok (.invokevirtual 39, 3) := by decide +kernel
theorem dL_does_447 : decode cL_does 447 = .ok (.istore 15, 2) := by decide +kernel
theorem dL_does_449 : decode cL_does 449 = .ok (.iconst 1, 1) := by decide +kernel
theorem dL_does_450 : decode cL_does 450 = .ok (.iload_n 2, 1) := by decide +kernel
theorem dL_does_451 : decode cL_does 451 = .ok (.iconst 2, 1) := by decide +kernel
theorem dL_does_452 : decode cL_does 452 = .ok (.ishr, 1) := by decide +kernel
theorem dL_does_453 : decode cL_does 453 = .ok (.bipush 60, 2) := by decide +kernel
theorem dL_does_455 : decode cL_does 455 = .ok (.invokestatic 64, 3) := by decide +kernel
theorem dL_does_458 : decode cL_does 458 = .ok (.iadd, 1) := by decide +kernel
theorem dL_does_459 : decode cL_does 459 = .ok (.istore 16, 2) := by decide +kernel
theorem dL_does_461 : decode cL_does 461 = .ok (.aload_n 0, 1) := by decide +kernel
theorem dL_does_462 : decode cL_does 462 = .ok (.iload 14, 2) := by decide +kernel
theorem dL_does_464 : decode cL_does 464 = .ok (.iconst 1, 1) := by decide +kernel
theorem dL_does_465 : decode cL_does 465 = .ok (.invokevirtual 39, 3) := by decide +kernel
theorem dL_does_468 : decode cL_does 468 = .ok (.ifCond .ne 14, 3) := by decide +kernel
theorem dL_does_471 : decode cL_does 471 = .ok (.iload 15, 2) := by decide +kernel
theorem dL_does_473 : decode cL_does 473 = .ok (.iload 16, 2) := by decide +kernel
theorem dL_does_475 : decode cL_does 475 = .ok (.if_icmp .lt 7, 3) := by decide +kernel
theorem dL_does_478 : decode cL_does 478 = .ok (.iconst 1, 1) := by decide +kernel
theorem dL_does_479 : decode cL_does 479 = .ok (.goto 4, 3) := by decide +kernel
theorem dL_does_482 : decode cL_does 482 = .ok (.iconst 0, 1) := by decide +kernel
theorem dL_does_483 : decode cL_does 483 = .ok (.istore 17, 2) := by decide +kernel
theorem dL_does_485 : decode cL_does 485 = .ok (.aload_n 0, 1) := by decide +kernel
theorem dL_does_486 : decode cL_does 486 = .ok (.iload 14, 2) := by decide +kernel
theorem dL_does_488 : decode cL_does 488 = .ok (.iload_n 2, 1) := by decide +kernel
theorem dL_does_489 : decode cL_does 489 = .ok (.bipush 9, 2) := by decide +kernel
theorem dL_does_491 : decode cL_does 491 = .ok (.ishr, 1) := by decide +kernel
theorem dL_does_492 : decode cL_does 492 = .ok (.iconst 1, 1) := by decide +kernel
theorem dL_does_493 : decode cL_does 493 = .ok (.iand, 1) := by decide +kernel
theorem dL_does_494 : decode cL_does 494 = .ok (.iconst 1, 1) := by decide +kernel
theorem dL_does_495 : decode cL_does 495 = .ok (.if_icmp .ne 7, 3) := by decide +kernel
theorem dL_does_498 : decode cL_does 498 = .ok (.iconst 1, 1) := by decide +kernel
theorem dL_does_499 : decode cL_does 499 = .ok (.goto 4, 3) := by decide +kernel
theorem dL_does_502 : decode cL_does 502 = .ok (.iconst 0, 1) := by decide +kernel
theorem dL_does_503 : decode cL_does 503 = .ok (.iload 16, 2) := by decide +kernel
theorem dL_does_505 : decode cL_does 505 = .ok (.invokevirtual 80, 3) := by decide +kernel
theorem dL_does_508 : decode cL_does 508 = .ok (.iload 17, 2) := by decide +kernel
theorem dL_does_510 : decode cL_does 510 = .ok (.ifCond .eq 11, 3) := by decide +kernel
theorem dL_does_513 : decode cL_does 513 = .ok (.iload 15, 2) := by decide +kernel
theorem dL_does_515 : decode cL_does 515 = .ok (.iload 16, 2) := by decide +kernel
theorem dL_does_517 : decode cL_does 517 = .ok (.isub, 1) := by decide +kernel
theorem dL_does_518 : decode cL_does 518 = .ok (.goto 5, 3) := by decide +kernel
theorem dL_does_521 : decode cL_does 521 = .ok (.bipush (-4), 2) := by decide +kernel
theorem dL_does_523 : decode cL_does 523 = .ok (.if_icmp .ne 40, 3) := by decide +kernel
theorem dL_does_526 : decode cL_does 526 = .ok (.iload 17, 2) := by decide +kernel
theorem dL_does_528 : decode cL_does 528 = .ok (.ifCond .eq 31, 3) := by decide +kernel
theorem dL_does_531 : decode cL_does 531 = .ok (.aload_n 0, 1) := by decide +kernel
theorem dL_does_532 : decode cL_does 532 = .ok (.iload 14, 2) := by decide +kernel
theorem dL_does_534 : decode cL_does 534 = .ok (.iconst 1, 1) := by decide +kernel
theorem dL_does_535 : decode cL_does 535 = .ok (.invokevirtual 39, 3) := by decide +kernel
theorem dL_does_538 : decode cL_does 538 = .ok (.iload 16, 2) := by decide +kernel
theorem dL_does_540 : decode cL_does 540 = .ok (.if_icmp .ne 23, 3) := by decide +kernel
theorem dL_does_543 : decode cL_does 543 = .ok (.aload_n 0, 1) := by decide +kernel
theorem dL_does_544 : decode cL_does 544 = .ok (.iload 14, 2) := by decide +kernel
theorem dL_does_546 : decode cL_does 546 = .ok (.iconst 2, 1) := by decide +kernel
theorem dL_does_547 : decode cL_does 547 = .ok (.invokevirtual 39, 3) := by decide +kernel
theorem dL_does_550 : decode cL_does 550 = .ok (.iload_n 2, 1) := by decide +kernel
theorem dL_does_551 : decode cL_does 551 = .ok (.bipush 9, 2) := by decide +kernel
theorem dL_does_553 : decode cL_does 553 = .ok (.ishr, 1) := by decide +kernel
theorem dL_does_554 : decode cL_does 554 = .ok (.iconst 1, 1) := by decide +kernel
theorem dL_does_555 : decode cL_does 555 = .ok (.iand, 1) := by decide +kernel
theorem dL_does_556 : decode cL_does 556 = .ok (.if_icmp .ne 7, 3) := by decide +kernel
theorem dL_does_559 : decode cL_does 559 = .ok (.iconst 1, 1) := by decide +kernel
theorem dL_does_560 : decode cL_does 560 = .ok (.goto 4, 3) := by decide +kernel
theorem dL_does_563 : decode cL_does 563 = .ok (.iconst 0, 1) := by decide +kernel
theorem dL_does_564 : decode cL_does 564 = .ok (.ireturn, 1) := by decide +kernel
theorem dL_does_565 : decode cL_does 565 = .ok (.iload_n 2, 1) := by decide +kernel
theorem dL_does_566 : decode cL_does 566 = .ok (.iconst 3, 1) := by decide +kernel
theorem dL_does_567 : decode cL_does 567 = .ok (.iand, 1) := by decide +kernel
theorem dL_does_568 : decode cL_does 568 = .ok (.istore 18, 2) := by decide +kernel
theorem dL_does_570 : decode cL_does 570 = .ok (.aload_n 0, 1) := by decide +kernel
theorem dL_does_571 : decode cL_does 571 = .ok (.iload 18, 2) := by decide +kernel
theorem dL_does_573 : decode cL_does 573 = .ok (.iconst 1, 1) := by decide +kernel
theorem dL_does_574 : decode cL_does 574 = .ok (.invokevirtual 39, 3) := by decide +kernel
theorem dL_does_577 : decode cL_does 577 = .ok (.istore 19, 2) := by decide +kernel
theorem dL_does_579 : decode cL_does 579 = .ok (.aload_n 0, 1) := by decide +kernel
theorem dL_does_580 : decode cL_does 580 = .ok (.iload 18, 2) := by decide +kernel
theorem dL_does_582 : decode cL_does 582 = .ok (.iconst 0, 1) := by decide +kernel
theorem dL_does_583 : decode cL_does 583 = .ok (.invokevirtual 39, 3) := by decide +kernel
theorem dL_does_586 : decode cL_does 586 = .ok (.istore 20, 2) := by decide +kernel
theorem dL_does_588 : decode cL_does 588 = .ok (.aload_n 0, 1) := by decide +kernel
theorem dL_does_589 : decode cL_does 589 = .ok (.iload 18, 2) := by decide +kernel
theorem dL_does_591 : decode cL_does 591 = .ok (.invokevirtual 84, 3) := by decide +kernel
theorem dL_does_594 : decode cL_does 594 = .ok (.iload 19, 2) := by decide +kernel
theorem dL_does_596 : decode cL_does 596 = .ok (.ifCond .ne 8, 3) := by decide +kernel
theorem dL_does_599 : decode cL_does 599 = .ok (.bipush (-5), 2) := by decide +kernel
theorem dL_does_601 : decode cL_does 601 = .ok (.goto 8, 3) := by decide +kernel
theorem dL_does_604 : decode cL_does 604 = .ok (.iload 20, 2) := by decide +kernel
theorem dL_does_606 : decode cL_does 606 = .ok (.iload 19, 2) := by decide +kernel
theorem dL_does_608 : decode cL_does 608 = .ok (.iadd, 1) := by decide +kernel
theorem dL_does_609 : decode cL_does 609 = .ok (.if_icmp .ne 17, 3) := by decide +kernel
theorem dL_does_612 : decode cL_does 612 = .ok (.aload_n 0, 1) := by decide +kernel
theorem dL_does_613 : decode cL_does 613 = .ok (.iload 18, 2) := by decide +kernel
theorem dL_does_615 : decode cL_does 615 = .ok (.iconst 1, 1) := by decide +kernel
theorem dL_does_616 : decode cL_does 616 = .ok (.invokevirtual 39, 3) := by decide +kernel
theorem dL_does_619 : decode cL_does 619 = .ok (.ifCond .ne 7, 3) := by decide +kernel
theorem dL_does_622 : decode cL_does 622 = .ok (.iconst 1, 1) := by decide +kernel
theorem dL_does_623 : decode cL_does 623 = .ok (.goto 4, 3) := by decide +kernel
theorem dL_does_626 : decode cL_does 626 = .ok (.iconst 0, 1) := by decide +kernel
theorem dL_does_627 : decode cL_does 627 = .ok (.ireturn, 1) := by decide +kernel
theorem dL_does_628 : decode cL_does 628 = .ok (.aload_n 0, 1) := by decide +kernel
theorem dL_does_629 : decode cL_does 629 = .ok (.aload_n 3, 1) := by decide +kernel
theorem dL_does_630 : decode cL_does 630 = .ok (.invokestatic 87, 3) := by decide +kernel
theorem dL_does_633 : decode cL_does 633 = .ok (.ireturn, 1) := by decide +kernel
theorem dL_does_634 : decode cL_does 634 = .ok (.aload_n 0, 1) := by decide +kernel
theorem dL_does_635 : decode cL_does 635 = .ok (.iload_n 2, 1) := by decide +kernel
theorem dL_does_636 : decode cL_does 636 = .ok (.bipush 61, 2) := by decide +kernel
theorem dL_does_638 : decode cL_does 638 = .ok (.invokestatic 64, 3) := by decide +kernel
theorem dL_does_641 : decode cL_does 641 = .ok (.bipush 30, 2) := by decide +kernel
theorem dL_does_643 : decode cL_does 643 = .ok (.isub, 1) := by decide +kernel
theorem dL_does_644 : decode cL_does 644 = .ok (.aload_n 3, 1) := by decide +kernel
theorem dL_does_645 : decode cL_does 645 = .ok (.invokestatic 91, 3) := by decide +kernel
theorem dL_does_648 : decode cL_does 648 = .ok (.ireturn, 1) := by decide +kernel
theorem dL_law_0 : decode cL_law 0 = .ok (.new 9, 3) := by decide +kernel
theorem dL_law_3 : decode cL_law 3 = .ok (.dup, 1) := by decide +kernel
theorem dL_law_4 : decode cL_law 4 = .ok (.invokespecial 95, 3) := by decide +kernel
theorem dL_law_7 : decode cL_law 7 = .ok (.astore_n 1, 1) := by decide +kernel
theorem dL_law_8 : decode cL_law 8 = .ok (.bipush 52, 2) := by decide +kernel
theorem dL_law_10 : decode cL_law 10 = .ok (.newarray .int, 2) := by decide +kernel
theorem dL_law_12 : decode cL_law 12 = .ok (.astore_n 2, 1) := by decide +kernel
theorem dL_law_13 : decode cL_law 13 = .ok (.aload_n 1, 1) := by decide +kernel
theorem dL_law_14 : decode cL_law 14 = .ok (.invokestatic 96, 3) := by decide +kernel
theorem dL_law_17 : decode cL_law 17 = .ok (.ifCond .eq 47, 3) := by decide +kernel
theorem dL_law_20 : decode cL_law 20 = .ok (.aload_n 1, 1) := by decide +kernel
theorem dL_law_21 : decode cL_law 21 = .ok (.iconst 0, 1) := by decide +kernel
theorem dL_law_22 : decode cL_law 22 = .ok (.invokestatic 100, 3) := by decide +kernel
theorem dL_law_25 : decode cL_law 25 = .ok (.ifCond .eq 39, 3) := by decide +kernel
theorem dL_law_28 : decode cL_law 28 = .ok (.aload_n 1, 1) := by decide +kernel
theorem dL_law_29 : decode cL_law 29 = .ok (.invokevirtual 104, 3) := by decide +kernel
theorem dL_law_32 : decode cL_law 32 = .ok (.fconst 0, 1) := by decide +kernel
theorem dL_law_33 : decode cL_law 33 = .ok (.fcmp .l, 1) := by decide +kernel
theorem dL_law_34 : decode cL_law 34 = .ok (.ifCond .ne 30, 3) := by decide +kernel
theorem dL_law_37 : decode cL_law 37 = .ok (.aload_n 1, 1) := by decide +kernel
theorem dL_law_38 : decode cL_law 38 = .ok (.invokevirtual 108, 3) := by decide +kernel
theorem dL_law_41 : decode cL_law 41 = .ok (.bipush (-5), 2) := by decide +kernel
theorem dL_law_43 : decode cL_law 43 = .ok (.if_icmp .ne 21, 3) := by decide +kernel
theorem dL_law_46 : decode cL_law 46 = .ok (.aload_n 1, 1) := by decide +kernel
theorem dL_law_47 : decode cL_law 47 = .ok (.invokevirtual 58, 3) := by decide +kernel
theorem dL_law_50 : decode cL_law 50 = .ok (.bipush (-5), 2) := by decide +kernel
theorem dL_law_52 : decode cL_law 52 = .ok (.if_icmp .ne 12, 3) := by decide +kernel
theorem dL_law_55 : decode cL_law 55 = .ok (.aload_n 1, 1) := by decide +kernel
theorem dL_law_56 : decode cL_law 56 = .ok (.invokevirtual 111, 3) := by decide +kernel
theorem dL_law_59 : decode cL_law 59 = .ok (.bipush (-100), 2) := by decide +kernel
theorem dL_law_61 : decode cL_law 61 = .ok (.if_icmp .eq 5, 3) := by decide +kernel
theorem dL_law_64 : decode cL_law 64 = .ok (.iconst 0, 1) := by decide +kernel
theorem dL_law_65 : decode cL_law 65 = .ok (.ireturn, 1) := by decide +kernel
theorem dL_law_66 : decode cL_law 66 = .ok (.iconst 0, 1) := by decide +kernel
theorem dL_law_67 : decode cL_law 67 = .ok (.istore_n 3, 1) := by decide +kernel
theorem dL_law_68 : decode cL_law 68 = .ok (.iload_n 3, 1) := by decide +kernel
theorem dL_law_69 : decode cL_law 69 = .ok (.sipush 130, 3) := by decide +kernel
theorem dL_law_72 : decode cL_law 72 = .ok (.if_icmp .ge 85, 3) := by decide +kernel
theorem dL_law_75 : decode cL_law 75 = .ok (.aload_n 0, 1) := by decide +kernel
theorem dL_law_76 : decode cL_law 76 = .ok (.iconst 2, 1) := by decide +kernel
theorem dL_law_77 : decode cL_law 77 = .ok (.iload_n 3, 1) := by decide +kernel
theorem dL_law_78 : decode cL_law 78 = .ok (.imul, 1) := by decide +kernel
theorem dL_law_79 : decode cL_law 79 = .ok (.invokestatic 114, 3) := by decide +kernel
theorem dL_law_82 : decode cL_law 82 = .ok (.istore 4, 2) := by decide +kernel
theorem dL_law_84 : decode cL_law 84 = .ok (.aload_n 1, 1) := by decide +kernel
theorem dL_law_85 : decode cL_law 85 = .ok (.iload 4, 2) := by decide +kernel
theorem dL_law_87 : decode cL_law 87 = .ok (.aload_n 0, 1) := by decide +kernel
theorem dL_law_88 : decode cL_law 88 = .ok (.iconst 2, 1) := by decide +kernel
theorem dL_law_89 : decode cL_law 89 = .ok (.iload_n 3, 1) := by decide +kernel
theorem dL_law_90 : decode cL_law 90 = .ok (.imul, 1) := by decide +kernel
theorem dL_law_91 : decode cL_law 91 = .ok (.iconst 1, 1) := by decide +kernel
theorem dL_law_92 : decode cL_law 92 = .ok (.iadd, 1) := by decide +kernel
theorem dL_law_93 : decode cL_law 93 = .ok (.invokestatic 114, 3) := by decide +kernel
theorem dL_law_96 : decode cL_law 96 = .ok (.aload_n 2, 1) := by decide +kernel
theorem dL_law_97 : decode cL_law 97 = .ok (.invokestatic 118, 3) := by decide +kernel
theorem dL_law_100 : decode cL_law 100 = .ok (.ifCond .eq 49, 3) := by decide +kernel
theorem dL_law_103 : decode cL_law 103 = .ok (.aload_n 1, 1) := by decide +kernel
theorem dL_law_104 : decode cL_law 104 = .ok (.invokestatic 96, 3) := by decide +kernel
theorem dL_law_107 : decode cL_law 107 = .ok (.ifCond .eq 42, 3) := by decide +kernel
theorem dL_law_110 : decode cL_law 110 = .ok (.iload_n 3, 1) := by decide +kernel
theorem dL_law_111 : decode cL_law 111 = .ok (.bipush 7, 2) := by decide +kernel
theorem dL_law_113 : decode cL_law 113 = .ok (.irem, 1) := by decide +kernel
theorem dL_law_114 : decode cL_law 114 = .ok (.iconst 3, 1) := by decide +kernel
theorem dL_law_115 : decode cL_law 115 = .ok (.if_icmp .ne 18, 3) := by decide +kernel
theorem dL_law_118 : decode cL_law 118 = .ok (.aload_n 1, 1) := by decide +kernel
theorem dL_law_119 : decode cL_law 119 = .ok (.iload 4, 2) := by decide +kernel
theorem dL_law_121 : decode cL_law 121 = .ok (.iconst 5, 1) := by decide +kernel
theorem dL_law_122 : decode cL_law 122 = .ok (.ishr, 1) := by decide +kernel
theorem dL_law_123 : decode cL_law 123 = .ok (.iconst 4, 1) := by decide +kernel
theorem dL_law_124 : decode cL_law 124 = .ok (.invokestatic 64, 3) := by decide +kernel
theorem dL_law_127 : decode cL_law 127 = .ok (.invokestatic 100, 3) := by decide +kernel
theorem dL_law_130 : decode cL_law 130 = .ok (.ifCond .eq 19, 3) := by decide +kernel
theorem dL_law_133 : decode cL_law 133 = .ok (.iload_n 3, 1) := by decide +kernel
theorem dL_law_134 : decode cL_law 134 = .ok (.bipush 25, 2) := by decide +kernel
theorem dL_law_136 : decode cL_law 136 = .ok (.irem, 1) := by decide +kernel
theorem dL_law_137 : decode cL_law 137 = .ok (.bipush 19, 2) := by decide +kernel
theorem dL_law_139 : decode cL_law 139 = .ok (.if_icmp .ne 12, 3) := by decide +kernel
theorem dL_law_142 : decode cL_law 142 = .ok (.aload_n 1, 1) := by decide +kernel
theorem dL_law_143 : decode cL_law 143 = .ok (.invokestatic 122, 3) := by decide +kernel
theorem dL_law_146 : decode cL_law 146 = .ok (.ifCond .ne 5, 3) := by decide +kernel
theorem dL_law_149 : decode cL_law 149 = .ok (.iconst 0, 1) := by decide +kernel
theorem dL_law_150 : decode cL_law 150 = .ok (.ireturn, 1) := by decide +kernel
theorem dL_law_151 : decode cL_law 151 = .ok (.iinc 3 1, 3) := by decide +kernel
theorem dL_law_154 : decode cL_law 154 = .ok (.goto (-86), 3) := by decide +kernel
theorem dL_law_157 : decode cL_law 157 = .ok (.aload_n 1, 1) := by decide +kernel
theorem dL_law_158 : decode cL_law 158 = .ok (.bipush 41, 2) := by decide +kernel
theorem dL_law_160 : decode cL_law 160 = .ok (.invokevirtual 49, 3) := by decide +kernel
theorem dL_law_163 : decode cL_law 163 = .ok (.bipush (-2), 2) := by decide +kernel
theorem dL_law_165 : decode cL_law 165 = .ok (.if_icmp .ne 99, 3) := by decide +kernel
theorem dL_law_168 : decode cL_law 168 = .ok (.aload_n 1, 1) := by decide +kernel
theorem dL_law_169 : decode cL_law 169 = .ok (.bipush 20, 2) := by decide +kernel
theorem dL_law_171 : decode cL_law 171 = .ok (.iconst 0, 1) := by decide +kernel
theorem dL_law_172 : decode cL_law 172 = .ok (.invokevirtual 67, 3) := by decide +kernel
theorem dL_law_175 : decode cL_law 175 = .ok (.iconst (-1), 1) := by decide +kernel
theorem dL_law_176 : decode cL_law 176 = .ok (.if_icmp .ne 88, 3) := by decide +kernel
theorem dL_law_179 : decode cL_law 179 = .ok (.aload_n 1, 1) := by decide +kernel
theorem dL_law_180 : decode cL_law 180 = .ok (.iconst 0, 1) := by decide +kernel
theorem dL_law_181 : decode cL_law 181 = .ok (.bipush 41, 2) := by decide +kernel
theorem dL_law_183 : decode cL_law 183 = .ok (.iconst 0, 1) := by decide +kernel
theorem dL_law_184 : decode cL_law 184 = .ok (.iconst 1, 1) := by decide +kernel
theorem dL_law_185 : decode cL_law 185 = .ok (.invokevirtual 70, 3) := by decide +kernel
theorem dL_law_188 : decode cL_law 188 = .ok (.bipush (-2), 2) := by decide +kernel
theorem dL_law_190 : decode cL_law 190 = .ok (.if_icmp .ne 74, 3) := by decide +kernel
theorem dL_law_193 : decode cL_law 193 = .ok (.aload_n 1, 1) := by decide +kernel
theorem dL_law_194 : decode cL_law 194 = .ok (.iconst 3, 1) := by decide +kernel
theorem dL_law_195 : decode cL_law 195 = .ok (.iconst 0, 1) := by decide +kernel
theorem dL_law_196 : decode cL_law 196 = .ok (.invokevirtual 77, 3) := by decide +kernel
theorem dL_law_199 : decode cL_law 199 = .ok (.bipush (-2), 2) := by decide +kernel
theorem dL_law_201 : decode cL_law 201 = .ok (.if_icmp .ne 63, 3) := by decide +kernel
theorem dL_law_204 : decode cL_law 204 = .ok (.aload_n 1, 1) := by decide +kernel
theorem dL_law_205 : decode cL_law 205 = .ok (.iconst 4, 1) := by decide +kernel
theorem dL_law_206 : decode cL_law 206 = .ok (.iconst 1, 1) := by decide +kernel
theorem dL_law_207 : decode cL_law 207 = .ok (.iconst 1, 1) := by decide +kernel
theorem dL_law_208 : decode cL_law 208 = .ok (.invokevirtual 80, 3) := by decide +kernel
theorem dL_law_211 : decode cL_law 211 = .ok (.iconst (-1), 1) := by decide +kernel
theorem dL_law_212 : decode cL_law 212 = .ok (.if_icmp .ne 52, 3) := by decide +kernel
theorem dL_law_215 : decode cL_law 215 = .ok (.aload_n 1, 1) := by decide +kernel
theorem dL_law_216 : decode cL_law 216 = .ok (.iconst 0, 1) := by decide +kernel
theorem dL_law_217 : decode cL_law 217 = .ok (.iconst 1, 1) := by decide +kernel
theorem dL_law_218 : decode cL_law 218 = .ok (.sipush 1001, 3) := by decide +kernel
theorem dL_law_221 : decode cL_law 221 = .ok (.invokevirtual 80, 3) := by decide +kernel
theorem dL_law_224 : decode cL_law 224 = .ok (.bipush (-2), 2) := by decide +kernel
theorem dL_law_226 : decode cL_law 226 = .ok (.if_icmp .ne 38, 3) := by decide +kernel
theorem dL_law_229 : decode cL_law 229 = .ok (.aload_n 1, 1) := by decide +kernel
theorem dL_law_230 : decode cL_law 230 = .ok (.iconst 2, 1) := by decide +kernel
theorem dL_law_231 : decode cL_law 231 = .ok (.invokevirtual 61, 3) := by decide +kernel
theorem dL_law_234 : decode cL_law 234 = .ok (.bipush (-2), 2) := by decide +kernel
theorem dL_law_236 : decode cL_law 236 = .ok (.if_icmp .ne 28, 3) := by decide +kernel
theorem dL_law_239 : decode cL_law 239 = .ok (.aload_n 1, 1) := by decide +kernel
theorem dL_law_240 : decode cL_law 240 = .ok (.bipush 20, 2) := by decide +kernel
theorem dL_law_242 : decode cL_law 242 = .ok (.invokevirtual 56, 3) := by decide +kernel
theorem dL_law_245 : decode cL_law 245 = .ok (.iconst (-1), 1) := by decide +kernel
theorem dL_law_246 : decode cL_law 246 = .ok (.if_icmp .ne 18, 3) := by decide +kernel
theorem dL_law_249 : decode cL_law 249 = .ok (.aload_n 1, 1) := by decide +kernel
theorem dL_law_250 : decode cL_law 250 = .ok (.bipush 16, 2) := by decide +kernel
theorem dL_law_252 : decode cL_law 252 = .ok (.invokevirtual 8, 3) := by decide +kernel
theorem dL_law_255 : decode cL_law 255 = .ok (.bipush (-2), 2) := by decide +kernel
theorem dL_law_257 : decode cL_law 257 = .ok (.if_icmp .ne 7, 3) := by decide +kernel
theorem dL_law_260 : decode cL_law 260 = .ok (.iconst 1, 1) := by decide +kernel
theorem dL_law_261 : decode cL_law 261 = .ok (.goto 4, 3) := by decide +kernel
theorem dL_law_264 : decode cL_law 264 = .ok (.iconst 0, 1) := by decide +kernel
theorem dL_law_265 : decode cL_law 265 = .ok (.ireturn, 1) := by decide +kernel
