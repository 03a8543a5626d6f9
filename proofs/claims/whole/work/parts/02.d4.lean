theorem dX10_isEmpty_0 : decode cX10_isEmpty 0 = .ok (.aload_n 0, 1) := by decide +kernel
theorem dX10_isEmpty_1 : decode cX10_isEmpty 1 = .ok (.getfield 11, 3) := by decide +kernel
theorem dX10_isEmpty_4 : decode cX10_isEmpty 4 = .ok (.iconst 1, 1) := by decide +kernel
theorem dX10_isEmpty_5 : decode cX10_isEmpty 5 = .ok (.iload_n 1, 1) := by decide +kernel
theorem dX10_isEmpty_6 : decode cX10_isEmpty 6 = .ok (.iadd, 1) := by decide +kernel
theorem dX10_isEmpty_7 : decode cX10_isEmpty 7 = .ok (.iaload, 1) := by decide +kernel
theorem dX10_isEmpty_8 : decode cX10_isEmpty 8 = .ok (.ifCond .ne 7, 3) := by decide +kernel
theorem dX10_isEmpty_11 : decode cX10_isEmpty 11 = .ok (.iconst 1, 1) := by decide +kernel
theorem dX10_isEmpty_12 : decode cX10_isEmpty 12 = .ok (.goto 4, 3) := by decide +kernel
theorem dX10_isEmpty_15 : decode cX10_isEmpty 15 = .ok (.iconst 0, 1) := by decide +kernel
theorem dX10_isEmpty_16 : decode cX10_isEmpty 16 = .ok (.ireturn, 1) := by decide +kernel
theorem dX10_reaches_0 : decode cX10_reaches 0 = .ok (.aload_n 0, 1) := by decide +kernel
theorem dX10_reaches_1 : decode cX10_reaches 1 = .ok (.iload_n 1, 1) := by decide +kernel
theorem dX10_reaches_2 : decode cX10_reaches 2 = .ok (.iload_n 3, 1) := by decide +kernel
theorem dX10_reaches_3 : decode cX10_reaches 3 = .ok (.invokevirtual 169, 3) := by decide +kernel
theorem dX10_reaches_6 : decode cX10_reaches 6 = .ok (.aload_n 0, 1) := by decide +kernel
theorem dX10_reaches_7 : decode cX10_reaches 7 = .ok (.getfield 11, 3) := by decide +kernel
theorem dX10_reaches_10 : decode cX10_reaches 10 = .ok (.iload_n 1, 1) := by decide +kernel
theorem dX10_reaches_11 : decode cX10_reaches 11 = .ok (.iaload, 1) := by decide +kernel
theorem dX10_reaches_12 : decode cX10_reaches 12 = .ok (.istore 5, 2) := by decide +kernel
theorem dX10_reaches_14 : decode cX10_reaches 14 = .ok (.iload 5, 2) := by decide +kernel
theorem dX10_reaches_16 : decode cX10_reaches 16 = .ok (.iconst 1, 1) := by decide +kernel
theorem dX10_reaches_17 : decode cX10_reaches 17 = .ok (.iand, 1) := by decide +kernel
theorem dX10_reaches_18 : decode cX10_reaches 18 = .ok (.ifCond .ne 10, 3) := by decide +kernel
theorem dX10_reaches_21 : decode cX10_reaches 21 = .ok (.iload 5, 2) := by decide +kernel
theorem dX10_reaches_23 : decode cX10_reaches 23 = .ok (.iconst 2, 1) := by decide +kernel
theorem dX10_reaches_24 : decode cX10_reaches 24 = .ok (.iand, 1) := by decide +kernel
theorem dX10_reaches_25 : decode cX10_reaches 25 = .ok (.ifCond .ne 7, 3) := by decide +kernel
theorem dX10_reaches_28 : decode cX10_reaches 28 = .ok (.iconst 1, 1) := by decide +kernel
theorem dX10_reaches_29 : decode cX10_reaches 29 = .ok (.goto 4, 3) := by decide +kernel
theorem dX10_reaches_32 : decode cX10_reaches 32 = .ok (.iconst 0, 1) := by decide +kernel
theorem dX10_reaches_33 : decode cX10_reaches 33 = .ok (.istore 6, 2) := by decide +kernel
theorem dX10_reaches_35 : decode cX10_reaches 35 = .ok (.iload 5, 2) := by decide +kernel
theorem dX10_reaches_37 : decode cX10_reaches 37 = .ok (.iconst 2, 1) := by decide +kernel
theorem dX10_reaches_38 : decode cX10_reaches 38 = .ok (.iand, 1) := by decide +kernel
theorem dX10_reaches_39 : decode cX10_reaches 39 = .ok (.ifCond .ne 10, 3) := by decide +kernel
theorem dX10_reaches_42 : decode cX10_reaches 42 = .ok (.iload 5, 2) := by decide +kernel
theorem dX10_reaches_44 : decode cX10_reaches 44 = .ok (.iconst 1, 1) := by decide +kernel
theorem dX10_reaches_45 : decode cX10_reaches 45 = .ok (.iand, 1) := by decide +kernel
theorem dX10_reaches_46 : decode cX10_reaches 46 = .ok (.ifCond .ne 7, 3) := by decide +kernel
theorem dX10_reaches_49 : decode cX10_reaches 49 = .ok (.iconst 1, 1) := by decide +kernel
theorem dX10_reaches_50 : decode cX10_reaches 50 = .ok (.goto 4, 3) := by decide +kernel
theorem dX10_reaches_53 : decode cX10_reaches 53 = .ok (.iconst 0, 1) := by decide +kernel
theorem dX10_reaches_54 : decode cX10_reaches 54 = .ok (.istore 7, 2) := by decide +kernel
theorem dX10_reaches_56 : decode cX10_reaches 56 = .ok (.aload_n 0, 1) := by decide +kernel
theorem dX10_reaches_57 : decode cX10_reaches 57 = .ok (.getfield 11, 3) := by decide +kernel
theorem dX10_reaches_60 : decode cX10_reaches 60 = .ok (.iload_n 1, 1) := by decide +kernel
theorem dX10_reaches_61 : decode cX10_reaches 61 = .ok (.iconst 2, 1) := by decide +kernel
theorem dX10_reaches_62 : decode cX10_reaches 62 = .ok (.iadd, 1) := by decide +kernel
theorem dX10_reaches_63 : decode cX10_reaches 63 = .ok (.iaload, 1) := by decide +kernel
theorem dX10_reaches_64 : decode cX10_reaches 64 = .ok (.iconst (-1), 1) := by decide +kernel
theorem dX10_reaches_65 : decode cX10_reaches 65 = .ok (.if_icmp .ne 7, 3) := by decide +kernel
theorem dX10_reaches_68 : decode cX10_reaches 68 = .ok (.iconst 1, 1) := by decide +kernel
theorem dX10_reaches_69 : decode cX10_reaches 69 = .ok (.goto 27, 3) := by decide +kernel
theorem dX10_reaches_72 : decode cX10_reaches 72 = .ok (.aload_n 0, 1) := by decide +kernel
theorem dX10_reaches_73 : decode cX10_reaches 73 = .ok (.getfield 11, 3) := by decide +kernel
theorem dX10_reaches_76 : decode cX10_reaches 76 = .ok (.iload_n 1, 1) := by decide +kernel
theorem dX10_reaches_77 : decode cX10_reaches 77 = .ok (.iconst 2, 1) := by decide +kernel
theorem dX10_reaches_78 : decode cX10_reaches 78 = .ok (.iadd, 1) := by decide +kernel
theorem dX10_reaches_79 : decode cX10_reaches 79 = .ok (.iaload, 1) := by decide +kernel
theorem dX10_reaches_80 : decode cX10_reaches 80 = .ok (.ifCond .ne 8, 3) := by decide +kernel
theorem dX10_reaches_83 : decode cX10_reaches 83 = .ok (.bipush 6, 2) := by decide +kernel
theorem dX10_reaches_85 : decode cX10_reaches 85 = .ok (.goto 11, 3) := by decide +kernel
theorem dX10_reaches_88 : decode cX10_reaches 88 = .ok (.aload_n 0, 1) := by decide +kernel
theorem dX10_reaches_89 : decode cX10_reaches 89 = .ok (.getfield 11, 3) := by decide +kernel
theorem dX10_reaches_92 : decode cX10_reaches 92 = .ok (.iload_n 1, 1) := by decide +kernel
theorem dX10_reaches_93 : decode cX10_reaches 93 = .ok (.iconst 2, 1) := by decide +kernel
theorem dX10_reaches_94 : decode cX10_reaches 94 = .ok (.iadd, 1) := by decide +kernel
theorem dX10_reaches_95 : decode cX10_reaches 95 = .ok (.iaload, 1) := by decide +kernel
theorem dX10_reaches_96 : decode cX10_reaches 96 = .ok (.istore 8, 2) := by decide +kernel
theorem dX10_reaches_98 : decode cX10_reaches 98 = .ok (.iload 5, 2) := by decide +kernel
theorem dX10_reaches_100 : decode cX10_reaches 100 = .ok (.bipush 32, 2) := by decide +kernel
theorem dX10_reaches_102 : decode cX10_reaches 102 = .ok (.iand, 1) := by decide +kernel
theorem dX10_reaches_103 : decode cX10_reaches 103 = .ok (.ifCond .eq 7, 3) := by decide +kernel
theorem dX10_reaches_106 : decode cX10_reaches 106 = .ok (.iconst 1, 1) := by decide +kernel
theorem dX10_reaches_107 : decode cX10_reaches 107 = .ok (.goto 4, 3) := by decide +kernel
theorem dX10_reaches_110 : decode cX10_reaches 110 = .ok (.iconst 0, 1) := by decide +kernel
theorem dX10_reaches_111 : decode cX10_reaches 111 = .ok (.istore 9, 2) := by decide +kernel
theorem dX10_reaches_113 : decode cX10_reaches 113 = .ok (.lconst 0, 1) := by decide +kernel
theorem dX10_reaches_114 : decode cX10_reaches 114 = .ok (.lstore 10, 2) := by decide +kernel
theorem dX10_reaches_116 : decode cX10_reaches 116 = .ok (.iconst 0, 1) := by decide +kernel
theorem dX10_reaches_117 : decode cX10_reaches 117 = .ok (.istore 12, 2) := by decide +kernel
theorem dX10_reaches_119 : decode cX10_reaches 119 = .ok (.iload 12, 2) := by decide +kernel
theorem dX10_reaches_121 : decode cX10_reaches 121 = .ok (.aload_n 0, 1) := by decide +kernel
theorem dX10_reaches_122 : decode cX10_reaches 122 = .ok (.getfield 159, 3) := by decide +kernel
theorem dX10_reaches_125 : decode cX10_reaches 125 = .ok (.if_icmp .ge 212, 3) := by decide +kernel
theorem dX10_reaches_128 : decode cX10_reaches 128 = .ok (.iconst 0, 1) := by decide +kernel
theorem dX10_reaches_129 : decode cX10_reaches 129 = .ok (.istore 13, 2) := by decide +kernel
theorem dX10_reaches_131 : decode cX10_reaches 131 = .ok (.iload_n 2, 1) := by decide +kernel
theorem dX10_reaches_132 : decode cX10_reaches 132 = .ok (.aload_n 0, 1) := by decide +kernel
theorem dX10_reaches_133 : decode cX10_reaches 133 = .ok (.getfield 11, 3) := by decide +kernel
theorem dX10_reaches_136 : decode cX10_reaches 136 = .ok (.bipush 53, 2) := by decide +kernel
theorem dX10_reaches_138 : decode cX10_reaches 138 = .ok (.iaload, 1) := by decide +kernel
theorem dX10_reaches_139 : decode cX10_reaches 139 = .ok (.irem, 1) := by decide +kernel
theorem dX10_reaches_140 : decode cX10_reaches 140 = .ok (.istore 14, 2) := by decide +kernel
theorem dX10_reaches_142 : decode cX10_reaches 142 = .ok (.aload_n 0, 1) := by decide +kernel
theorem dX10_reaches_143 : decode cX10_reaches 143 = .ok (.iload_n 2, 1) := by decide +kernel
theorem dX10_reaches_144 : decode cX10_reaches 144 = .ok (.invokevirtual 152, 3) := by decide +kernel
theorem dX10_reaches_147 : decode cX10_reaches 147 = .ok (.istore 15, 2) := by decide +kernel
theorem dX10_reaches_149 : decode cX10_reaches 149 = .ok (.iconst 0, 1) := by decide +kernel
theorem dX10_reaches_150 : decode cX10_reaches 150 = .ok (.istore 16, 2) := by decide +kernel
theorem dX10_reaches_152 : decode cX10_reaches 152 = .ok (.iload 16, 2) := by decide +kernel
theorem dX10_reaches_154 : decode cX10_reaches 154 = .ok (.iload 8, 2) := by decide +kernel
theorem dX10_reaches_156 : decode cX10_reaches 156 = .ok (.if_icmp .ge 175, 3) := by decide +kernel
theorem dX10_reaches_159 : decode cX10_reaches 159 = .ok (.iload 13, 2) := by decide +kernel
theorem dX10_reaches_161 : decode cX10_reaches 161 = .ok (.iload 9, 2) := by decide +kernel
theorem dX10_reaches_163 : decode cX10_reaches 163 = .ok (.if_icmp .gt 168, 3) := by decide +kernel
theorem dX10_reaches_166 : decode cX10_reaches 166 = .ok (.iload 14, 2) := by decide +kernel
theorem dX10_reaches_168 : decode cX10_reaches 168 = .ok (.aload_n 0, 1) := by decide +kernel
theorem dX10_reaches_169 : decode cX10_reaches 169 = .ok (.getfield 45, 3) := by decide +kernel
theorem dX10_reaches_172 : decode cX10_reaches 172 = .ok (.iload 12, 2) := by decide +kernel
theorem dX10_reaches_174 : decode cX10_reaches 174 = .ok (.iaload, 1) := by decide +kernel
theorem dX10_reaches_175 : decode cX10_reaches 175 = .ok (.iadd, 1) := by decide +kernel
theorem dX10_reaches_176 : decode cX10_reaches 176 = .ok (.istore 14, 2) := by decide +kernel
theorem dX10_reaches_178 : decode cX10_reaches 178 = .ok (.iload 15, 2) := by decide +kernel
theorem dX10_reaches_180 : decode cX10_reaches 180 = .ok (.aload_n 0, 1) := by decide +kernel
theorem dX10_reaches_181 : decode cX10_reaches 181 = .ok (.getfield 48, 3) := by decide +kernel
theorem dX10_reaches_184 : decode cX10_reaches 184 = .ok (.iload 12, 2) := by decide +kernel
theorem dX10_reaches_186 : decode cX10_reaches 186 = .ok (.iaload, 1) := by decide +kernel
theorem dX10_reaches_187 : decode cX10_reaches 187 = .ok (.iadd, 1) := by decide +kernel
theorem dX10_reaches_188 : decode cX10_reaches 188 = .ok (.istore 15, 2) := by decide +kernel
theorem dX10_reaches_190 : decode cX10_reaches 190 = .ok (.iload 14, 2) := by decide +kernel
theorem dX10_reaches_192 : decode cX10_reaches 192 = .ok (.iconst 0, 1) := by decide +kernel
theorem dX10_reaches_193 : decode cX10_reaches 193 = .ok (.aload_n 0, 1) := by decide +kernel
theorem dX10_reaches_194 : decode cX10_reaches 194 = .ok (.getfield 11, 3) := by decide +kernel
theorem dX10_reaches_197 : decode cX10_reaches 197 = .ok (.bipush 53, 2) := by decide +kernel
theorem dX10_reaches_199 : decode cX10_reaches 199 = .ok (.iaload, 1) := by decide +kernel
theorem dX10_reaches_200 : decode cX10_reaches 200 = .ok (.iconst 1, 1) := by decide +kernel
theorem dX10_reaches_201 : decode cX10_reaches 201 = .ok (.isub, 1) := by decide +kernel
theorem dX10_reaches_202 : decode cX10_reaches 202 = .ok (.invokestatic 61, 3) := by decide +kernel
theorem dX10_reaches_205 : decode cX10_reaches 205 = .ok (.ifCond .eq 126, 3) := by decide +kernel
theorem dX10_reaches_208 : decode cX10_reaches 208 = .ok (.iload 15, 2) := by decide +kernel
theorem dX10_reaches_210 : decode cX10_reaches 210 = .ok (.iconst 0, 1) := by decide +kernel
theorem dX10_reaches_211 : decode cX10_reaches 211 = .ok (.aload_n 0, 1) := by decide +kernel
theorem dX10_reaches_212 : decode cX10_reaches 212 = .ok (.getfield 11, 3) := by decide +kernel
theorem dX10_reaches_215 : decode cX10_reaches 215 = .ok (.bipush 54, 2) := by decide +kernel
theorem dX10_reaches_217 : decode cX10_reaches 217 = .ok (.iaload, 1) := by decide +kernel
theorem dX10_reaches_218 : decode cX10_reaches 218 = .ok (.iconst 1, 1) := by decide +kernel
theorem dX10_reaches_219 : decode cX10_reaches 219 = .ok (.isub, 1) := by decide +kernel
theorem dX10_reaches_220 : decode cX10_reaches 220 = .ok (.invokestatic 61, 3) := by decide +kernel
theorem dX10_reaches_223 : decode cX10_reaches 223 = .ok (.ifCond .ne 6, 3) := by decide +kernel
theorem dX10_reaches_226 : decode cX10_reaches 226 = .ok (.goto 105, 3) := by decide +kernel
theorem dX10_reaches_229 : decode cX10_reaches 229 = .ok (.aload_n 0, 1) := by decide +kernel
theorem dX10_reaches_230 : decode cX10_reaches 230 = .ok (.getfield 11, 3) := by decide +kernel
theorem dX10_reaches_233 : decode cX10_reaches 233 = .ok (.bipush 53, 2) := by decide +kernel
theorem dX10_reaches_235 : decode cX10_reaches 235 = .ok (.iaload, 1) := by decide +kernel
theorem dX10_reaches_236 : decode cX10_reaches 236 = .ok (.iload 15, 2) := by decide +kernel
theorem dX10_reaches_238 : decode cX10_reaches 238 = .ok (.imul, 1) := by decide +kernel
theorem dX10_reaches_239 : decode cX10_reaches 239 = .ok (.iload 14, 2) := by decide +kernel
theorem dX10_reaches_241 : decode cX10_reaches 241 = .ok (.iadd, 1) := by decide +kernel
theorem dX10_reaches_242 : decode cX10_reaches 242 = .ok (.istore 17, 2) := by decide +kernel
theorem dX10_reaches_244 : decode cX10_reaches 244 = .ok (.iload 4, 2) := by decide +kernel
theorem dX10_reaches_246 : decode cX10_reaches 246 = .ok (.ifCond .eq 8, 3) := by decide +kernel
theorem dX10_reaches_249 : decode cX10_reaches 249 = .ok (.iload 7, 2) := by decide +kernel
theorem dX10_reaches_251 : decode cX10_reaches 251 = .ok (.goto 39, 3) := by decide +kernel
theorem dX10_reaches_254 : decode cX10_reaches 254 = .ok (.aload_n 0, 1) := by decide +kernel
theorem dX10_reaches_255 : decode cX10_reaches 255 = .ok (.iload 17, 2) := by decide +kernel
theorem dX10_reaches_257 : decode cX10_reaches 257 = .ok (.invokevirtual 172, 3) := by decide +kernel
theorem dX10_reaches_260 : decode cX10_reaches 260 = .ok (.ifCond .eq 8, 3) := by decide +kernel
theorem dX10_reaches_263 : decode cX10_reaches 263 = .ok (.iload 6, 2) := by decide +kernel
theorem dX10_reaches_265 : decode cX10_reaches 265 = .ok (.goto 25, 3) := by decide +kernel
theorem dX10_reaches_268 : decode cX10_reaches 268 = .ok (.iload 7, 2) := by decide +kernel
theorem dX10_reaches_270 : decode cX10_reaches 270 = .ok (.ifCond .eq 19, 3) := by decide +kernel
theorem dX10_reaches_273 : decode cX10_reaches 273 = .ok (.aload_n 0, 1) := by decide +kernel
theorem dX10_reaches_274 : decode cX10_reaches 274 = .ok (.iload 17, 2) := by decide +kernel
theorem dX10_reaches_276 : decode cX10_reaches 276 = .ok (.iconst 1, 1) := by decide +kernel
theorem dX10_reaches_277 : decode cX10_reaches 277 = .ok (.iload_n 3, 1) := by decide +kernel
theorem dX10_reaches_278 : decode cX10_reaches 278 = .ok (.isub, 1) := by decide +kernel
theorem dX10_reaches_279 : decode cX10_reaches 279 = .ok (.invokevirtual 175, 3) := by decide +kernel
theorem dX10_reaches_282 : decode cX10_reaches 282 = .ok (.ifCond .eq 7, 3) := by decide +kernel
theorem dX10_reaches_285 : decode cX10_reaches 285 = .ok (.iconst 1, 1) := by decide +kernel
theorem dX10_reaches_286 : decode cX10_reaches 286 = .ok (.goto 4, 3) := by decide +kernel
theorem dX10_reaches_289 : decode cX10_reaches 289 = .ok (.iconst 0, 1) := by decide +kernel
theorem dX10_reaches_290 : decode cX10_reaches 290 = .ok (.istore 18, 2) := by decide +kernel
theorem dX10_reaches_292 : decode cX10_reaches 292 = .ok (.iload 13, 2) := by decide +kernel
theorem dX10_reaches_294 : decode cX10_reaches 294 = .ok (.iload 9, 2) := by decide +kernel
theorem dX10_reaches_296 : decode cX10_reaches 296 = .ok (.if_icmp .ne 17, 3) := by decide +kernel
theorem dX10_reaches_299 : decode cX10_reaches 299 = .ok (.iload 18, 2) := by decide +kernel
theorem dX10_reaches_301 : decode cX10_reaches 301 = .ok (.ifCond .eq 12, 3) := by decide +kernel
theorem dX10_reaches_304 : decode cX10_reaches 304 = .ok (.lload 10, 2) := by decide +kernel
theorem dX10_reaches_306 : decode cX10_reaches 306 = .ok (.lconst 1, 1) := by decide +kernel
theorem dX10_reaches_307 : decode cX10_reaches 307 = .ok (.iload 17, 2) := by decide +kernel
theorem dX10_reaches_309 : decode cX10_reaches 309 = .ok (.lshl, 1) := by decide +kernel
theorem dX10_reaches_310 : decode cX10_reaches 310 = .ok (.lor, 1) := by decide +kernel
theorem dX10_reaches_311 : decode cX10_reaches 311 = .ok (.lstore 10, 2) := by decide +kernel
theorem dX10_reaches_313 : decode cX10_reaches 313 = .ok (.aload_n 0, 1) := by decide +kernel
theorem dX10_reaches_314 : decode cX10_reaches 314 = .ok (.iload 17, 2) := by decide +kernel
theorem dX10_reaches_316 : decode cX10_reaches 316 = .ok (.invokevirtual 172, 3) := by decide +kernel
theorem dX10_reaches_319 : decode cX10_reaches 319 = .ok (.ifCond .ne 6, 3) := by decide +kernel
theorem dX10_reaches_322 : decode cX10_reaches 322 = .ok (.iinc 13 1, 3) := by decide +kernel
theorem dX10_reaches_325 : decode cX10_reaches 325 = .ok (.iinc 16 1, 3) := by decide +kernel
theorem dX10_reaches_328 : decode cX10_reaches 328 = .ok (.goto (-176), 3) := by decide +kernel
theorem dX10_reaches_331 : decode cX10_reaches 331 = .ok (.iinc 12 1, 3) := by decide +kernel
theorem dX10_reaches_334 : decode cX10_reaches 334 = .ok (.goto (-215), 3) := by decide +kernel
theorem dX10_reaches_337 : decode cX10_reaches 337 = .ok (.lload 10, 2) := by decide +kernel
theorem dX10_reaches_339 : decode cX10_reaches 339 = .ok (.lreturn, 1) := by decide +kernel
theorem dX10_all_0 : decode cX10_all 0 = .ok (.lconst 0, 1) := by decide +kernel
theorem dX10_all_1 : decode cX10_all 1 = .ok (.lstore 5, 2) := by decide +kernel
theorem dX10_all_3 : decode cX10_all 3 = .ok (.iconst 0, 1) := by decide +kernel
theorem dX10_all_4 : decode cX10_all 4 = .ok (.istore 7, 2) := by decide +kernel
theorem dX10_all_6 : decode cX10_all 6 = .ok (.iload 7, 2) := by decide +kernel
theorem dX10_all_8 : decode cX10_all 8 = .ok (.aload_n 0, 1) := by decide +kernel
theorem dX10_all_9 : decode cX10_all 9 = .ok (.getfield 11, 3) := by decide +kernel
theorem dX10_all_12 : decode cX10_all 12 = .ok (.iload_n 1, 1) := by decide +kernel
theorem dX10_all_13 : decode cX10_all 13 = .ok (.invokestatic 54, 3) := by decide +kernel
theorem dX10_all_16 : decode cX10_all 16 = .ok (.iconst 2, 1) := by decide +kernel
theorem dX10_all_17 : decode cX10_all 17 = .ok (.iadd, 1) := by decide +kernel
theorem dX10_all_18 : decode cX10_all 18 = .ok (.iaload, 1) := by decide +kernel
theorem dX10_all_19 : decode cX10_all 19 = .ok (.if_icmp .ge 33, 3) := by decide +kernel
theorem dX10_all_22 : decode cX10_all 22 = .ok (.lload 5, 2) := by decide +kernel
theorem dX10_all_24 : decode cX10_all 24 = .ok (.aload_n 0, 1) := by decide +kernel
theorem dX10_all_25 : decode cX10_all 25 = .ok (.iload_n 1, 1) := by decide +kernel
theorem dX10_all_26 : decode cX10_all 26 = .ok (.invokestatic 54, 3) := by decide +kernel
theorem dX10_all_29 : decode cX10_all 29 = .ok (.iconst 3, 1) := by decide +kernel
theorem dX10_all_30 : decode cX10_all 30 = .ok (.iadd, 1) := by decide +kernel
theorem dX10_all_31 : decode cX10_all 31 = .ok (.iconst 3, 1) := by decide +kernel
theorem dX10_all_32 : decode cX10_all 32 = .ok (.iload 7, 2) := by decide +kernel
theorem dX10_all_34 : decode cX10_all 34 = .ok (.imul, 1) := by decide +kernel
theorem dX10_all_35 : decode cX10_all 35 = .ok (.iadd, 1) := by decide +kernel
theorem dX10_all_36 : decode cX10_all 36 = .ok (.iload_n 2, 1) := by decide +kernel
theorem dX10_all_37 : decode cX10_all 37 = .ok (.iload_n 3, 1) := by decide +kernel
theorem dX10_all_38 : decode cX10_all 38 = .ok (.iload 4, 2) := by decide +kernel
theorem dX10_all_40 : decode cX10_all 40 = .ok (.invokevirtual 179, 3) := by decide +kernel
theorem dX10_all_43 : decode cX10_all 43 = .ok (.lor, 1) := by decide +kernel
theorem dX10_all_44 : decode cX10_all 44 = .ok (.lstore 5, 2) := by decide +kernel
theorem dX10_all_46 : decode cX10_all 46 = .ok (.iinc 7 1, 3) := by decide +kernel
theorem dX10_all_49 : decode cX10_all 49 = .ok (.goto (-43), 3) := by decide +kernel
theorem dX10_all_52 : decode cX10_all 52 = .ok (.lload 5, 2) := by decide +kernel
theorem dX10_all_54 : decode cX10_all 54 = .ok (.lreturn, 1) := by decide +kernel
theorem dX10_attackedBy_0 : decode cX10_attackedBy 0 = .ok (.lconst 0, 1) := by decide +kernel
theorem dX10_attackedBy_1 : decode cX10_attackedBy 1 = .ok (.lstore_n 2, 1) := by decide +kernel
theorem dX10_attackedBy_2 : decode cX10_attackedBy 2 = .ok (.iconst 0, 1) := by decide +kernel
theorem dX10_attackedBy_3 : decode cX10_attackedBy 3 = .ok (.istore 4, 2) := by decide +kernel
theorem dX10_attackedBy_5 : decode cX10_attackedBy 5 = .ok (.iload 4, 2) := by decide +kernel
theorem dX10_attackedBy_7 : decode cX10_attackedBy 7 = .ok (.aload_n 0, 1) := by decide +kernel
theorem dX10_attackedBy_8 : decode cX10_attackedBy 8 = .ok (.invokevirtual 65, 3) := by decide +kernel
theorem dX10_attackedBy_11 : decode cX10_attackedBy 11 = .ok (.if_icmp .ge 39, 3) := by decide +kernel
theorem dX10_attackedBy_14 : decode cX10_attackedBy 14 = .ok (.aload_n 0, 1) := by decide +kernel
theorem dX10_attackedBy_15 : decode cX10_attackedBy 15 = .ok (.iload 4, 2) := by decide +kernel
theorem dX10_attackedBy_17 : decode cX10_attackedBy 17 = .ok (.iload_n 1, 1) := by decide +kernel
theorem dX10_attackedBy_18 : decode cX10_attackedBy 18 = .ok (.invokevirtual 175, 3) := by decide +kernel
theorem dX10_attackedBy_21 : decode cX10_attackedBy 21 = .ok (.ifCond .eq 23, 3) := by decide +kernel
theorem dX10_attackedBy_24 : decode cX10_attackedBy 24 = .ok (.lload_n 2, 1) := by decide +kernel
theorem dX10_attackedBy_25 : decode cX10_attackedBy 25 = .ok (.aload_n 0, 1) := by decide +kernel
theorem dX10_attackedBy_26 : decode cX10_attackedBy 26 = .ok (.aload_n 0, 1) := by decide +kernel
theorem dX10_attackedBy_27 : decode cX10_attackedBy 27 = .ok (.iload 4, 2) := by decide +kernel
theorem dX10_attackedBy_29 : decode cX10_attackedBy 29 = .ok (.invokevirtual 69, 3) := by decide +kernel
theorem dX10_attackedBy_32 : decode cX10_attackedBy 32 = .ok (.bipush 6, 2) := by decide +kernel
theorem dX10_attackedBy_34 : decode cX10_attackedBy 34 = .ok (.irem, 1) := by decide +kernel
theorem dX10_attackedBy_35 : decode cX10_attackedBy 35 = .ok (.iload 4, 2) := by decide +kernel
theorem dX10_attackedBy_37 : decode cX10_attackedBy 37 = .ok (.iload_n 1, 1) := by decide +kernel
theorem dX10_attackedBy_38 : decode cX10_attackedBy 38 = .ok (.iconst 1, 1) := by decide +kernel
theorem dX10_attackedBy_39 : decode cX10_attackedBy 39 = .ok (.invokevirtual 183, 3) := by decide +kernel
theorem dX10_attackedBy_42 : decode cX10_attackedBy 42 = .ok (.lor, 1) := by decide +kernel
theorem dX10_attackedBy_43 : decode cX10_attackedBy 43 = .ok (.lstore_n 2, 1) := by decide +kernel
theorem dX10_attackedBy_44 : decode cX10_attackedBy 44 = .ok (.iinc 4 1, 3) := by decide +kernel
theorem dX10_attackedBy_47 : decode cX10_attackedBy 47 = .ok (.goto (-42), 3) := by decide +kernel
theorem dX10_attackedBy_50 : decode cX10_attackedBy 50 = .ok (.lload_n 2, 1) := by decide +kernel
theorem dX10_attackedBy_51 : decode cX10_attackedBy 51 = .ok (.lreturn, 1) := by decide +kernel
theorem dX10_royals_0 : decode cX10_royals 0 = .ok (.lconst 0, 1) := by decide +kernel
theorem dX10_royals_1 : decode cX10_royals 1 = .ok (.lstore_n 2, 1) := by decide +kernel
theorem dX10_royals_2 : decode cX10_royals 2 = .ok (.iconst 0, 1) := by decide +kernel
theorem dX10_royals_3 : decode cX10_royals 3 = .ok (.istore 4, 2) := by decide +kernel
theorem dX10_royals_5 : decode cX10_royals 5 = .ok (.iload 4, 2) := by decide +kernel
theorem dX10_royals_7 : decode cX10_royals 7 = .ok (.aload_n 0, 1) := by decide +kernel
theorem dX10_royals_8 : decode cX10_royals 8 = .ok (.invokevirtual 65, 3) := by decide +kernel
theorem dX10_royals_11 : decode cX10_royals 11 = .ok (.if_icmp .ge 47, 3) := by decide +kernel
theorem dX10_royals_14 : decode cX10_royals 14 = .ok (.aload_n 0, 1) := by decide +kernel
theorem dX10_royals_15 : decode cX10_royals 15 = .ok (.iload 4, 2) := by decide +kernel
theorem dX10_royals_17 : decode cX10_royals 17 = .ok (.iload_n 1, 1) := by decide +kernel
theorem dX10_royals_18 : decode cX10_royals 18 = .ok (.invokevirtual 175, 3) := by decide +kernel
theorem dX10_royals_21 : decode cX10_royals 21 = .ok (.ifCond .eq 31, 3) := by decide +kernel
theorem dX10_royals_24 : decode cX10_royals 24 = .ok (.aload_n 0, 1) := by decide +kernel
theorem dX10_royals_25 : decode cX10_royals 25 = .ok (.getfield 11, 3) := by decide +kernel
theorem dX10_royals_28 : decode cX10_royals 28 = .ok (.aload_n 0, 1) := by decide +kernel
theorem dX10_royals_29 : decode cX10_royals 29 = .ok (.iload 4, 2) := by decide +kernel
theorem dX10_royals_31 : decode cX10_royals 31 = .ok (.invokevirtual 69, 3) := by decide +kernel
theorem dX10_royals_34 : decode cX10_royals 34 = .ok (.bipush 6, 2) := by decide +kernel
theorem dX10_royals_36 : decode cX10_royals 36 = .ok (.irem, 1) := by decide +kernel
theorem dX10_royals_37 : decode cX10_royals 37 = .ok (.invokestatic 54, 3) := by decide +kernel
theorem dX10_royals_40 : decode cX10_royals 40 = .ok (.iaload, 1) := by decide +kernel
theorem dX10_royals_41 : decode cX10_royals 41 = .ok (.iconst 1, 1) := by decide +kernel
theorem dX10_royals_42 : decode cX10_royals 42 = .ok (.if_icmp .ne 10, 3) := by decide +kernel
theorem dX10_royals_45 : decode cX10_royals 45 = .ok (.lload_n 2, 1) := by decide +kernel
theorem dX10_royals_46 : decode cX10_royals 46 = .ok (.lconst 1, 1) := by decide +kernel
theorem dX10_royals_47 : decode cX10_royals 47 = .ok (.iload 4, 2) := by decide +kernel
theorem dX10_royals_49 : decode cX10_royals 49 = .ok (.lshl, 1) := by decide +kernel
theorem dX10_royals_50 : decode cX10_royals 50 = .ok (.lor, 1) := by decide +kernel
theorem dX10_royals_51 : decode cX10_royals 51 = .ok (.lstore_n 2, 1) := by decide +kernel
theorem dX10_royals_52 : decode cX10_royals 52 = .ok (.iinc 4 1, 3) := by decide +kernel
theorem dX10_royals_55 : decode cX10_royals 55 = .ok (.goto (-50), 3) := by decide +kernel
theorem dX10_royals_58 : decode cX10_royals 58 = .ok (.lload_n 2, 1) := by decide +kernel
theorem dX10_royals_59 : decode cX10_royals 59 = .ok (.lreturn, 1) := by decide +kernel
theorem dX10_isSafe_0 : decode cX10_isSafe 0 = .ok (.aload_n 0, 1) := by decide +kernel
theorem dX10_isSafe_1 : decode cX10_isSafe 1 = .ok (.getfield 11, 3) := by decide +kernel
theorem dX10_isSafe_4 : decode cX10_isSafe 4 = .ok (.bipush 56, 2) := by decide +kernel
theorem dX10_isSafe_6 : decode cX10_isSafe 6 = .ok (.iaload, 1) := by decide +kernel
theorem dX10_isSafe_7 : decode cX10_isSafe 7 = .ok (.istore_n 2, 1) := by decide +kernel
theorem dX10_isSafe_8 : decode cX10_isSafe 8 = .ok (.iload_n 2, 1) := by decide +kernel
theorem dX10_isSafe_9 : decode cX10_isSafe 9 = .ok (.iconst 2, 1) := by decide +kernel
theorem dX10_isSafe_10 : decode cX10_isSafe 10 = .ok (.if_icmp .ne 7, 3) := by decide +kernel
theorem dX10_isSafe_13 : decode cX10_isSafe 13 = .ok (.lconst 0, 1) := by decide +kernel
theorem dX10_isSafe_14 : decode cX10_isSafe 14 = .ok (.goto 8, 3) := by decide +kernel
theorem dX10_isSafe_17 : decode cX10_isSafe 17 = .ok (.aload_n 0, 1) := by decide +kernel
theorem dX10_isSafe_18 : decode cX10_isSafe 18 = .ok (.iload_n 1, 1) := by decide +kernel
theorem dX10_isSafe_19 : decode cX10_isSafe 19 = .ok (.invokevirtual 186, 3) := by decide +kernel
theorem dX10_isSafe_22 : decode cX10_isSafe 22 = .ok (.lstore_n 3, 1) := by decide +kernel
theorem dX10_isSafe_23 : decode cX10_isSafe 23 = .ok (.lload_n 3, 1) := by decide +kernel
theorem dX10_isSafe_24 : decode cX10_isSafe 24 = .ok (.lconst 0, 1) := by decide +kernel
theorem dX10_isSafe_25 : decode cX10_isSafe 25 = .ok (.lcmp, 1) := by decide +kernel
theorem dX10_isSafe_26 : decode cX10_isSafe 26 = .ok (.ifCond .ne 5, 3) := by decide +kernel
theorem dX10_isSafe_29 : decode cX10_isSafe 29 = .ok (.iconst 1, 1) := by decide +kernel
theorem dX10_isSafe_30 : decode cX10_isSafe 30 = .ok (.ireturn, 1) := by decide +kernel
theorem dX10_isSafe_31 : decode cX10_isSafe 31 = .ok (.lload_n 3, 1) := by decide +kernel
theorem dX10_isSafe_32 : decode cX10_isSafe 32 = .ok (.aload_n 0, 1) := by decide +kernel
theorem dX10_isSafe_33 : decode cX10_isSafe 33 = .ok (.iconst 1, 1) := by decide +kernel
theorem dX10_isSafe_34 : decode cX10_isSafe 34 = .ok (.iload_n 1, 1) := by decide +kernel
theorem dX10_isSafe_35 : decode cX10_isSafe 35 = .ok (.isub, 1) := by decide +kernel
theorem dX10_isSafe_36 : decode cX10_isSafe 36 = .ok (.invokevirtual 190, 3) := by decide +kernel
theorem dX10_isSafe_39 : decode cX10_isSafe 39 = .ok (.land, 1) := by decide +kernel
theorem dX10_isSafe_40 : decode cX10_isSafe 40 = .ok (.lstore 5, 2) := by decide +kernel
theorem dX10_isSafe_42 : decode cX10_isSafe 42 = .ok (.iload_n 2, 1) := by decide +kernel
theorem dX10_isSafe_43 : decode cX10_isSafe 43 = .ok (.ifCond .ne 18, 3) := by decide +kernel
theorem dX10_isSafe_46 : decode cX10_isSafe 46 = .ok (.lload 5, 2) := by decide +kernel
theorem dX10_isSafe_48 : decode cX10_isSafe 48 = .ok (.lconst 0, 1) := by decide +kernel
theorem dX10_isSafe_49 : decode cX10_isSafe 49 = .ok (.lcmp, 1) := by decide +kernel
theorem dX10_isSafe_50 : decode cX10_isSafe 50 = .ok (.ifCond .ne 7, 3) := by decide +kernel
theorem dX10_isSafe_53 : decode cX10_isSafe 53 = .ok (.iconst 1, 1) := by decide +kernel
theorem dX10_isSafe_54 : decode cX10_isSafe 54 = .ok (.goto 19, 3) := by decide +kernel
theorem dX10_isSafe_57 : decode cX10_isSafe 57 = .ok (.iconst 0, 1) := by decide +kernel
theorem dX10_isSafe_58 : decode cX10_isSafe 58 = .ok (.goto 15, 3) := by decide +kernel
theorem dX10_isSafe_61 : decode cX10_isSafe 61 = .ok (.lload 5, 2) := by decide +kernel
theorem dX10_isSafe_63 : decode cX10_isSafe 63 = .ok (.lload_n 3, 1) := by decide +kernel
theorem dX10_isSafe_64 : decode cX10_isSafe 64 = .ok (.lcmp, 1) := by decide +kernel
theorem dX10_isSafe_65 : decode cX10_isSafe 65 = .ok (.ifCond .eq 7, 3) := by decide +kernel
theorem dX10_isSafe_68 : decode cX10_isSafe 68 = .ok (.iconst 1, 1) := by decide +kernel
theorem dX10_isSafe_69 : decode cX10_isSafe 69 = .ok (.goto 4, 3) := by decide +kernel
theorem dX10_isSafe_72 : decode cX10_isSafe 72 = .ok (.iconst 0, 1) := by decide +kernel
theorem dX10_isSafe_73 : decode cX10_isSafe 73 = .ok (.ireturn, 1) := by decide +kernel
theorem dX10_has_0 : decode cX10_has 0 = .ok (.lload_n 0, 1) := by decide +kernel
theorem dX10_has_1 : decode cX10_has 1 = .ok (.iload_n 2, 1) := by decide +kernel
theorem dX10_has_2 : decode cX10_has 2 = .ok (.lshr, 1) := by decide +kernel
theorem dX10_has_3 : decode cX10_has 3 = .ok (.lconst 1, 1) := by decide +kernel
theorem dX10_has_4 : decode cX10_has 4 = .ok (.land, 1) := by decide +kernel
theorem dX10_has_5 : decode cX10_has 5 = .ok (.lconst 1, 1) := by decide +kernel
theorem dX10_has_6 : decode cX10_has 6 = .ok (.lcmp, 1) := by decide +kernel
theorem dX10_has_7 : decode cX10_has 7 = .ok (.ifCond .ne 7, 3) := by decide +kernel
theorem dX10_has_10 : decode cX10_has 10 = .ok (.iconst 1, 1) := by decide +kernel
theorem dX10_has_11 : decode cX10_has 11 = .ok (.goto 4, 3) := by decide +kernel
theorem dX10_has_14 : decode cX10_has 14 = .ok (.iconst 0, 1) := by decide +kernel
theorem dX10_has_15 : decode cX10_has 15 = .ok (.ireturn, 1) := by decide +kernel
theorem dX10_isFar_0 : decode cX10_isFar 0 = .ok (.aload_n 0, 1) := by decide +kernel
theorem dX10_isFar_1 : decode cX10_isFar 1 = .ok (.iload_n 1, 1) := by decide +kernel
theorem dX10_isFar_2 : decode cX10_isFar 2 = .ok (.invokevirtual 152, 3) := by decide +kernel
theorem dX10_isFar_5 : decode cX10_isFar 5 = .ok (.iload_n 2, 1) := by decide +kernel
theorem dX10_isFar_6 : decode cX10_isFar 6 = .ok (.ifCond .ne 15, 3) := by decide +kernel
theorem dX10_isFar_9 : decode cX10_isFar 9 = .ok (.aload_n 0, 1) := by decide +kernel
theorem dX10_isFar_10 : decode cX10_isFar 10 = .ok (.getfield 11, 3) := by decide +kernel
theorem dX10_isFar_13 : decode cX10_isFar 13 = .ok (.bipush 54, 2) := by decide +kernel
theorem dX10_isFar_15 : decode cX10_isFar 15 = .ok (.iaload, 1) := by decide +kernel
theorem dX10_isFar_16 : decode cX10_isFar 16 = .ok (.iconst 1, 1) := by decide +kernel
theorem dX10_isFar_17 : decode cX10_isFar 17 = .ok (.isub, 1) := by decide +kernel
theorem dX10_isFar_18 : decode cX10_isFar 18 = .ok (.goto 4, 3) := by decide +kernel
theorem dX10_isFar_21 : decode cX10_isFar 21 = .ok (.iconst 0, 1) := by decide +kernel
theorem dX10_isFar_22 : decode cX10_isFar 22 = .ok (.if_icmp .ne 7, 3) := by decide +kernel
theorem dX10_isFar_25 : decode cX10_isFar 25 = .ok (.iconst 1, 1) := by decide +kernel
theorem dX10_isFar_26 : decode cX10_isFar 26 = .ok (.goto 4, 3) := by decide +kernel
theorem dX10_isFar_29 : decode cX10_isFar 29 = .ok (.iconst 0, 1) := by decide +kernel
theorem dX10_isFar_30 : decode cX10_isFar 30 = .ok (.ireturn, 1) := by decide +kernel
theorem dX10_promotion_0 : decode cX10_promotion 0 = .ok (.aload_n 0, 1) := by decide +kernel
theorem dX10_promotion_1 : decode cX10_promotion 1 = .ok (.getfield 11, 3) := by decide +kernel
theorem dX10_promotion_4 : decode cX10_promotion 4 = .ok (.iload_n 1, 1) := by decide +kernel
theorem dX10_promotion_5 : decode cX10_promotion 5 = .ok (.invokestatic 54, 3) := by decide +kernel
theorem dX10_promotion_8 : decode cX10_promotion 8 = .ok (.iconst 1, 1) := by decide +kernel
theorem dX10_promotion_9 : decode cX10_promotion 9 = .ok (.iadd, 1) := by decide +kernel
theorem dX10_promotion_10 : decode cX10_promotion 10 = .ok (.iaload, 1) := by decide +kernel
theorem dX10_promotion_11 : decode cX10_promotion 11 = .ok (.iconst 1, 1) := by decide +kernel
theorem dX10_promotion_12 : decode cX10_promotion 12 = .ok (.isub, 1) := by decide +kernel
theorem dX10_promotion_13 : decode cX10_promotion 13 = .ok (.ireturn, 1) := by decide +kernel
theorem dX10_arrives_0 : decode cX10_arrives 0 = .ok (.aload_n 0, 1) := by decide +kernel
theorem dX10_arrives_1 : decode cX10_arrives 1 = .ok (.iload_n 1, 1) := by decide +kernel
theorem dX10_arrives_2 : decode cX10_arrives 2 = .ok (.invokevirtual 193, 3) := by decide +kernel
theorem dX10_arrives_5 : decode cX10_arrives 5 = .ok (.ifCond .lt 20, 3) := by decide +kernel
theorem dX10_arrives_8 : decode cX10_arrives 8 = .ok (.aload_n 0, 1) := by decide +kernel
theorem dX10_arrives_9 : decode cX10_arrives 9 = .ok (.iload_n 2, 1) := by decide +kernel
theorem dX10_arrives_10 : decode cX10_arrives 10 = .ok (.iload_n 3, 1) := by decide +kernel
theorem dX10_arrives_11 : decode cX10_arrives 11 = .ok (.invokevirtual 196, 3) := by decide +kernel
theorem dX10_arrives_14 : decode cX10_arrives 14 = .ok (.ifCond .eq 11, 3) := by decide +kernel
theorem dX10_arrives_17 : decode cX10_arrives 17 = .ok (.aload_n 0, 1) := by decide +kernel
theorem dX10_arrives_18 : decode cX10_arrives 18 = .ok (.iload_n 1, 1) := by decide +kernel
theorem dX10_arrives_19 : decode cX10_arrives 19 = .ok (.invokevirtual 193, 3) := by decide +kernel
theorem dX10_arrives_22 : decode cX10_arrives 22 = .ok (.goto 4, 3) := by decide +kernel
theorem dX10_arrives_25 : decode cX10_arrives 25 = .ok (.iload_n 1, 1) := by decide +kernel
theorem dX10_arrives_26 : decode cX10_arrives 26 = .ok (.ireturn, 1) := by decide +kernel
theorem dX10_touches_0 : decode cX10_touches 0 = .ok (.iconst 0, 1) := by decide +kernel
theorem dX10_touches_1 : decode cX10_touches 1 = .ok (.istore_n 2, 1) := by decide +kernel
theorem dX10_touches_2 : decode cX10_touches 2 = .ok (.iload_n 2, 1) := by decide +kernel
theorem dX10_touches_3 : decode cX10_touches 3 = .ok (.iconst 4, 1) := by decide +kernel
theorem dX10_touches_4 : decode cX10_touches 4 = .ok (.if_icmp .ge 49, 3) := by decide +kernel
theorem dX10_touches_7 : decode cX10_touches 7 = .ok (.aload_n 0, 1) := by decide +kernel
theorem dX10_touches_8 : decode cX10_touches 8 = .ok (.getfield 11, 3) := by decide +kernel
theorem dX10_touches_11 : decode cX10_touches 11 = .ok (.iload_n 2, 1) := by decide +kernel
theorem dX10_touches_12 : decode cX10_touches 12 = .ok (.invokestatic 72, 3) := by decide +kernel
theorem dX10_touches_15 : decode cX10_touches 15 = .ok (.iconst 2, 1) := by decide +kernel
theorem dX10_touches_16 : decode cX10_touches 16 = .ok (.iadd, 1) := by decide +kernel
theorem dX10_touches_17 : decode cX10_touches 17 = .ok (.iaload, 1) := by decide +kernel
theorem dX10_touches_18 : decode cX10_touches 18 = .ok (.iload_n 1, 1) := by decide +kernel
theorem dX10_touches_19 : decode cX10_touches 19 = .ok (.if_icmp .eq 18, 3) := by decide +kernel
theorem dX10_touches_22 : decode cX10_touches 22 = .ok (.aload_n 0, 1) := by decide +kernel
theorem dX10_touches_23 : decode cX10_touches 23 = .ok (.getfield 11, 3) := by decide +kernel
theorem dX10_touches_26 : decode cX10_touches 26 = .ok (.iload_n 2, 1) := by decide +kernel
theorem dX10_touches_27 : decode cX10_touches 27 = .ok (.invokestatic 72, 3) := by decide +kernel
theorem dX10_touches_30 : decode cX10_touches 30 = .ok (.iconst 4, 1) := by decide +kernel
theorem dX10_touches_31 : decode cX10_touches 31 = .ok (.iadd, 1) := by decide +kernel
theorem dX10_touches_32 : decode cX10_touches 32 = .ok (.iaload, 1) := by decide +kernel
theorem dX10_touches_33 : decode cX10_touches 33 = .ok (.iload_n 1, 1) := by decide +kernel
theorem dX10_touches_34 : decode cX10_touches 34 = .ok (.if_icmp .ne 13, 3) := by decide +kernel
theorem dX10_touches_37 : decode cX10_touches 37 = .ok (.aload_n 0, 1) := by decide +kernel
theorem dX10_touches_38 : decode cX10_touches 38 = .ok (.getfield 11, 3) := by decide +kernel
theorem dX10_touches_41 : decode cX10_touches 41 = .ok (.bipush 49, 2) := by decide +kernel
theorem dX10_touches_43 : decode cX10_touches 43 = .ok (.iload_n 2, 1) := by decide +kernel
theorem dX10_touches_44 : decode cX10_touches 44 = .ok (.iadd, 1) := by decide +kernel
theorem dX10_touches_45 : decode cX10_touches 45 = .ok (.iconst 0, 1) := by decide +kernel
theorem dX10_touches_46 : decode cX10_touches 46 = .ok (.iastore, 1) := by decide +kernel
theorem dX10_touches_47 : decode cX10_touches 47 = .ok (.iinc 2 1, 3) := by decide +kernel
theorem dX10_touches_50 : decode cX10_touches 50 = .ok (.goto (-48), 3) := by decide +kernel
theorem dX10_touches_53 : decode cX10_touches 53 = .ok (.return_, 1) := by decide +kernel
theorem dX10_plays_0 : decode cX10_plays 0 = .ok (.aload_n 0, 1) := by decide +kernel
theorem dX10_plays_1 : decode cX10_plays 1 = .ok (.getfield 11, 3) := by decide +kernel
theorem dX10_plays_4 : decode cX10_plays 4 = .ok (.iconst 0, 1) := by decide +kernel
theorem dX10_plays_5 : decode cX10_plays 5 = .ok (.iaload, 1) := by decide +kernel
theorem dX10_plays_6 : decode cX10_plays 6 = .ok (.istore 5, 2) := by decide +kernel
theorem dX10_plays_8 : decode cX10_plays 8 = .ok (.iload_n 1, 1) := by decide +kernel
theorem dX10_plays_9 : decode cX10_plays 9 = .ok (.iconst 1, 1) := by decide +kernel
theorem dX10_plays_10 : decode cX10_plays 10 = .ok (.if_icmp .ne 149, 3) := by decide +kernel
theorem dX10_plays_13 : decode cX10_plays 13 = .ok (.iload 4, 2) := by decide +kernel
theorem dX10_plays_15 : decode cX10_plays 15 = .ok (.invokestatic 72, 3) := by decide +kernel
theorem dX10_plays_18 : decode cX10_plays 18 = .ok (.istore 6, 2) := by decide +kernel
theorem dX10_plays_20 : decode cX10_plays 20 = .ok (.aload_n 0, 1) := by decide +kernel
theorem dX10_plays_21 : decode cX10_plays 21 = .ok (.getfield 11, 3) := by decide +kernel
theorem dX10_plays_24 : decode cX10_plays 24 = .ok (.iconst 1, 1) := by decide +kernel
theorem dX10_plays_25 : decode cX10_plays 25 = .ok (.aload_n 0, 1) := by decide +kernel
theorem dX10_plays_26 : decode cX10_plays 26 = .ok (.getfield 11, 3) := by decide +kernel
theorem dX10_plays_29 : decode cX10_plays 29 = .ok (.iload 6, 2) := by decide +kernel
theorem dX10_plays_31 : decode cX10_plays 31 = .ok (.iconst 2, 1) := by decide +kernel
theorem dX10_plays_32 : decode cX10_plays 32 = .ok (.iadd, 1) := by decide +kernel
theorem dX10_plays_33 : decode cX10_plays 33 = .ok (.iaload, 1) := by decide +kernel
theorem dX10_plays_34 : decode cX10_plays 34 = .ok (.iadd, 1) := by decide +kernel
theorem dX10_plays_35 : decode cX10_plays 35 = .ok (.iaload, 1) := by decide +kernel
theorem dX10_plays_36 : decode cX10_plays 36 = .ok (.istore 7, 2) := by decide +kernel
theorem dX10_plays_38 : decode cX10_plays 38 = .ok (.aload_n 0, 1) := by decide +kernel
theorem dX10_plays_39 : decode cX10_plays 39 = .ok (.getfield 11, 3) := by decide +kernel
theorem dX10_plays_42 : decode cX10_plays 42 = .ok (.iconst 1, 1) := by decide +kernel
theorem dX10_plays_43 : decode cX10_plays 43 = .ok (.aload_n 0, 1) := by decide +kernel
theorem dX10_plays_44 : decode cX10_plays 44 = .ok (.getfield 11, 3) := by decide +kernel
theorem dX10_plays_47 : decode cX10_plays 47 = .ok (.iload 6, 2) := by decide +kernel
theorem dX10_plays_49 : decode cX10_plays 49 = .ok (.iconst 4, 1) := by decide +kernel
theorem dX10_plays_50 : decode cX10_plays 50 = .ok (.iadd, 1) := by decide +kernel
theorem dX10_plays_51 : decode cX10_plays 51 = .ok (.iaload, 1) := by decide +kernel
theorem dX10_plays_52 : decode cX10_plays 52 = .ok (.iadd, 1) := by decide +kernel
theorem dX10_plays_53 : decode cX10_plays 53 = .ok (.iaload, 1) := by decide +kernel
theorem dX10_plays_54 : decode cX10_plays 54 = .ok (.istore 8, 2) := by decide +kernel
theorem dX10_plays_56 : decode cX10_plays 56 = .ok (.aload_n 0, 1) := by decide +kernel
theorem dX10_plays_57 : decode cX10_plays 57 = .ok (.getfield 11, 3) := by decide +kernel
theorem dX10_plays_60 : decode cX10_plays 60 = .ok (.iconst 1, 1) := by decide +kernel
theorem dX10_plays_61 : decode cX10_plays 61 = .ok (.aload_n 0, 1) := by decide +kernel
theorem dX10_plays_62 : decode cX10_plays 62 = .ok (.getfield 11, 3) := by decide +kernel
theorem dX10_plays_65 : decode cX10_plays 65 = .ok (.iload 6, 2) := by decide +kernel
theorem dX10_plays_67 : decode cX10_plays 67 = .ok (.iconst 2, 1) := by decide +kernel
theorem dX10_plays_68 : decode cX10_plays 68 = .ok (.iadd, 1) := by decide +kernel
theorem dX10_plays_69 : decode cX10_plays 69 = .ok (.iaload, 1) := by decide +kernel
theorem dX10_plays_70 : decode cX10_plays 70 = .ok (.iadd, 1) := by decide +kernel
theorem dX10_plays_71 : decode cX10_plays 71 = .ok (.iconst 0, 1) := by decide +kernel
theorem dX10_plays_72 : decode cX10_plays 72 = .ok (.iastore, 1) := by decide +kernel
theorem dX10_plays_73 : decode cX10_plays 73 = .ok (.aload_n 0, 1) := by decide +kernel
theorem dX10_plays_74 : decode cX10_plays 74 = .ok (.getfield 11, 3) := by decide +kernel
theorem dX10_plays_77 : decode cX10_plays 77 = .ok (.iconst 1, 1) := by decide +kernel
theorem dX10_plays_78 : decode cX10_plays 78 = .ok (.aload_n 0, 1) := by decide +kernel
theorem dX10_plays_79 : decode cX10_plays 79 = .ok (.getfield 11, 3) := by decide +kernel
theorem dX10_plays_82 : decode cX10_plays 82 = .ok (.iload 6, 2) := by decide +kernel
theorem dX10_plays_84 : decode cX10_plays 84 = .ok (.iconst 4, 1) := by decide +kernel
theorem dX10_plays_85 : decode cX10_plays 85 = .ok (.iadd, 1) := by decide +kernel
theorem dX10_plays_86 : decode cX10_plays 86 = .ok (.iaload, 1) := by decide +kernel
theorem dX10_plays_87 : decode cX10_plays 87 = .ok (.iadd, 1) := by decide +kernel
theorem dX10_plays_88 : decode cX10_plays 88 = .ok (.iconst 0, 1) := by decide +kernel
theorem dX10_plays_89 : decode cX10_plays 89 = .ok (.iastore, 1) := by decide +kernel
theorem dX10_plays_90 : decode cX10_plays 90 = .ok (.aload_n 0, 1) := by decide +kernel
theorem dX10_plays_91 : decode cX10_plays 91 = .ok (.getfield 11, 3) := by decide +kernel
theorem dX10_plays_94 : decode cX10_plays 94 = .ok (.iconst 1, 1) := by decide +kernel
theorem dX10_plays_95 : decode cX10_plays 95 = .ok (.aload_n 0, 1) := by decide +kernel
theorem dX10_plays_96 : decode cX10_plays 96 = .ok (.getfield 11, 3) := by decide +kernel
theorem dX10_plays_99 : decode cX10_plays 99 = .ok (.iload 6, 2) := by decide +kernel
theorem dX10_plays_101 : decode cX10_plays 101 = .ok (.iconst 3, 1) := by decide +kernel
theorem dX10_plays_102 : decode cX10_plays 102 = .ok (.iadd, 1) := by decide +kernel
theorem dX10_plays_103 : decode cX10_plays 103 = .ok (.iaload, 1) := by decide +kernel
theorem dX10_plays_104 : decode cX10_plays 104 = .ok (.iadd, 1) := by decide +kernel
theorem dX10_plays_105 : decode cX10_plays 105 = .ok (.iload 7, 2) := by decide +kernel
theorem dX10_plays_107 : decode cX10_plays 107 = .ok (.iastore, 1) := by decide +kernel
theorem dX10_plays_108 : decode cX10_plays 108 = .ok (.aload_n 0, 1) := by decide +kernel
theorem dX10_plays_109 : decode cX10_plays 109 = .ok (.getfield 11, 3) := by decide +kernel
theorem dX10_plays_112 : decode cX10_plays 112 = .ok (.iconst 1, 1) := by decide +kernel
theorem dX10_plays_113 : decode cX10_plays 113 = .ok (.aload_n 0, 1) := by decide +kernel
theorem dX10_plays_114 : decode cX10_plays 114 = .ok (.getfield 11, 3) := by decide +kernel
theorem dX10_plays_117 : decode cX10_plays 117 = .ok (.iload 6, 2) := by decide +kernel
theorem dX10_plays_119 : decode cX10_plays 119 = .ok (.iconst 5, 1) := by decide +kernel
theorem dX10_plays_120 : decode cX10_plays 120 = .ok (.iadd, 1) := by decide +kernel
theorem dX10_plays_121 : decode cX10_plays 121 = .ok (.iaload, 1) := by decide +kernel
theorem dX10_plays_122 : decode cX10_plays 122 = .ok (.iadd, 1) := by decide +kernel
theorem dX10_plays_123 : decode cX10_plays 123 = .ok (.iload 8, 2) := by decide +kernel
theorem dX10_plays_125 : decode cX10_plays 125 = .ok (.iastore, 1) := by decide +kernel
theorem dX10_plays_126 : decode cX10_plays 126 = .ok (.iconst 2, 1) := by decide +kernel
theorem dX10_plays_127 : decode cX10_plays 127 = .ok (.istore 9, 2) := by decide +kernel
theorem dX10_plays_129 : decode cX10_plays 129 = .ok (.iload 9, 2) := by decide +kernel
theorem dX10_plays_131 : decode cX10_plays 131 = .ok (.bipush 6, 2) := by decide +kernel
theorem dX10_plays_133 : decode cX10_plays 133 = .ok (.if_icmp .ge 23, 3) := by decide +kernel
theorem dX10_plays_136 : decode cX10_plays 136 = .ok (.aload_n 0, 1) := by decide +kernel
theorem dX10_plays_137 : decode cX10_plays 137 = .ok (.aload_n 0, 1) := by decide +kernel
theorem dX10_plays_138 : decode cX10_plays 138 = .ok (.getfield 11, 3) := by decide +kernel
theorem dX10_plays_141 : decode cX10_plays 141 = .ok (.iload 6, 2) := by decide +kernel
theorem dX10_plays_143 : decode cX10_plays 143 = .ok (.iload 9, 2) := by decide +kernel
theorem dX10_plays_145 : decode cX10_plays 145 = .ok (.iadd, 1) := by decide +kernel
theorem dX10_plays_146 : decode cX10_plays 146 = .ok (.iaload, 1) := by decide +kernel
theorem dX10_plays_147 : decode cX10_plays 147 = .ok (.invokevirtual 199, 3) := by decide +kernel
theorem dX10_plays_150 : decode cX10_plays 150 = .ok (.iinc 9 1, 3) := by decide +kernel
theorem dX10_plays_153 : decode cX10_plays 153 = .ok (.goto (-24), 3) := by decide +kernel
theorem dX10_plays_156 : decode cX10_plays 156 = .ok (.goto 158, 3) := by decide +kernel
theorem dX10_plays_159 : decode cX10_plays 159 = .ok (.iload_n 1, 1) := by decide +kernel
theorem dX10_plays_160 : decode cX10_plays 160 = .ok (.iconst 2, 1) := by decide +kernel
theorem dX10_plays_161 : decode cX10_plays 161 = .ok (.if_icmp .ne 49, 3) := by decide +kernel
theorem dX10_plays_164 : decode cX10_plays 164 = .ok (.aload_n 0, 1) := by decide +kernel
theorem dX10_plays_165 : decode cX10_plays 165 = .ok (.getfield 11, 3) := by decide +kernel
theorem dX10_plays_168 : decode cX10_plays 168 = .ok (.bipush 37, 2) := by decide +kernel
theorem dX10_plays_170 : decode cX10_plays 170 = .ok (.bipush 6, 2) := by decide +kernel
theorem dX10_plays_172 : decode cX10_plays 172 = .ok (.iload 5, 2) := by decide +kernel
theorem dX10_plays_174 : decode cX10_plays 174 = .ok (.imul, 1) := by decide +kernel
theorem dX10_plays_175 : decode cX10_plays 175 = .ok (.iadd, 1) := by decide +kernel
theorem dX10_plays_176 : decode cX10_plays 176 = .ok (.iload 4, 2) := by decide +kernel
theorem dX10_plays_178 : decode cX10_plays 178 = .ok (.iadd, 1) := by decide +kernel
theorem dX10_plays_179 : decode cX10_plays 179 = .ok (.dup2, 1) := by decide +kernel
theorem dX10_plays_180 : decode cX10_plays 180 = .ok (.iaload, 1) := by decide +kernel
theorem dX10_plays_181 : decode cX10_plays 181 = .ok (.iconst 1, 1) := by decide +kernel
theorem dX10_plays_182 : decode cX10_plays 182 = .ok (.isub, 1) := by decide +kernel
theorem dX10_plays_183 : decode cX10_plays 183 = .ok (.iastore, 1) := by decide +kernel
theorem dX10_plays_184 : decode cX10_plays 184 = .ok (.aload_n 0, 1) := by decide +kernel
theorem dX10_plays_185 : decode cX10_plays 185 = .ok (.getfield 11, 3) := by decide +kernel
theorem dX10_plays_188 : decode cX10_plays 188 = .ok (.iconst 1, 1) := by decide +kernel
theorem dX10_plays_189 : decode cX10_plays 189 = .ok (.iload_n 3, 1) := by decide +kernel
theorem dX10_plays_190 : decode cX10_plays 190 = .ok (.iadd, 1) := by decide +kernel
theorem dX10_plays_191 : decode cX10_plays 191 = .ok (.iconst 1, 1) := by decide +kernel
theorem dX10_plays_192 : decode cX10_plays 192 = .ok (.iload 4, 2) := by decide +kernel
theorem dX10_plays_194 : decode cX10_plays 194 = .ok (.iadd, 1) := by decide +kernel
theorem dX10_plays_195 : decode cX10_plays 195 = .ok (.bipush 6, 2) := by decide +kernel
theorem dX10_plays_197 : decode cX10_plays 197 = .ok (.iload 5, 2) := by decide +kernel
theorem dX10_plays_199 : decode cX10_plays 199 = .ok (.imul, 1) := by decide +kernel
theorem dX10_plays_200 : decode cX10_plays 200 = .ok (.iadd, 1) := by decide +kernel
theorem dX10_plays_201 : decode cX10_plays 201 = .ok (.iastore, 1) := by decide +kernel
theorem dX10_plays_202 : decode cX10_plays 202 = .ok (.aload_n 0, 1) := by decide +kernel
theorem dX10_plays_203 : decode cX10_plays 203 = .ok (.iload_n 3, 1) := by decide +kernel
theorem dX10_plays_204 : decode cX10_plays 204 = .ok (.invokevirtual 199, 3) := by decide +kernel
theorem dX10_plays_207 : decode cX10_plays 207 = .ok (.goto 107, 3) := by decide +kernel
theorem dX10_plays_210 : decode cX10_plays 210 = .ok (.aload_n 0, 1) := by decide +kernel
theorem dX10_plays_211 : decode cX10_plays 211 = .ok (.iload_n 3, 1) := by decide +kernel
theorem dX10_plays_212 : decode cX10_plays 212 = .ok (.invokevirtual 69, 3) := by decide +kernel
theorem dX10_plays_215 : decode cX10_plays 215 = .ok (.istore 6, 2) := by decide +kernel
theorem dX10_plays_217 : decode cX10_plays 217 = .ok (.iload 6, 2) := by decide +kernel
theorem dX10_plays_219 : decode cX10_plays 219 = .ok (.ifCond .lt 51, 3) := by decide +kernel
theorem dX10_plays_222 : decode cX10_plays 222 = .ok (.aload_n 0, 1) := by decide +kernel
theorem dX10_plays_223 : decode cX10_plays 223 = .ok (.getfield 11, 3) := by decide +kernel
theorem dX10_plays_226 : decode cX10_plays 226 = .ok (.bipush 55, 2) := by decide +kernel
theorem dX10_plays_228 : decode cX10_plays 228 = .ok (.iaload, 1) := by decide +kernel
theorem dX10_plays_229 : decode cX10_plays 229 = .ok (.iconst 1, 1) := by decide +kernel
theorem dX10_plays_230 : decode cX10_plays 230 = .ok (.if_icmp .ne 40, 3) := by decide +kernel
theorem dX10_plays_233 : decode cX10_plays 233 = .ok (.bipush 37, 2) := by decide +kernel
theorem dX10_plays_235 : decode cX10_plays 235 = .ok (.bipush 6, 2) := by decide +kernel
theorem dX10_plays_237 : decode cX10_plays 237 = .ok (.iload 5, 2) := by decide +kernel
theorem dX10_plays_239 : decode cX10_plays 239 = .ok (.imul, 1) := by decide +kernel
theorem dX10_plays_240 : decode cX10_plays 240 = .ok (.iadd, 1) := by decide +kernel
theorem dX10_plays_241 : decode cX10_plays 241 = .ok (.iload 6, 2) := by decide +kernel
theorem dX10_plays_243 : decode cX10_plays 243 = .ok (.bipush 6, 2) := by decide +kernel
theorem dX10_plays_245 : decode cX10_plays 245 = .ok (.irem, 1) := by decide +kernel
theorem dX10_plays_246 : decode cX10_plays 246 = .ok (.iadd, 1) := by decide +kernel
theorem dX10_plays_247 : decode cX10_plays 247 = .ok (.istore 7, 2) := by decide +kernel
theorem dX10_plays_249 : decode cX10_plays 249 = .ok (.aload_n 0, 1) := by decide +kernel
theorem dX10_plays_250 : decode cX10_plays 250 = .ok (.getfield 11, 3) := by decide +kernel
theorem dX10_plays_253 : decode cX10_plays 253 = .ok (.iload 7, 2) := by decide +kernel
theorem dX10_plays_255 : decode cX10_plays 255 = .ok (.bipush 9, 2) := by decide +kernel
theorem dX10_plays_257 : decode cX10_plays 257 = .ok (.aload_n 0, 1) := by decide +kernel
theorem dX10_plays_258 : decode cX10_plays 258 = .ok (.getfield 11, 3) := by decide +kernel
theorem dX10_plays_261 : decode cX10_plays 261 = .ok (.iload 7, 2) := by decide +kernel
theorem dX10_plays_263 : decode cX10_plays 263 = .ok (.iaload, 1) := by decide +kernel
theorem dX10_plays_264 : decode cX10_plays 264 = .ok (.iconst 1, 1) := by decide +kernel
theorem dX10_plays_265 : decode cX10_plays 265 = .ok (.iadd, 1) := by decide +kernel
theorem dX10_plays_266 : decode cX10_plays 266 = .ok (.invokestatic 203, 3) := by decide +kernel
theorem dX10_plays_269 : decode cX10_plays 269 = .ok (.iastore, 1) := by decide +kernel
theorem dX10_plays_270 : decode cX10_plays 270 = .ok (.aload_n 0, 1) := by decide +kernel
theorem dX10_plays_271 : decode cX10_plays 271 = .ok (.getfield 11, 3) := by decide +kernel
theorem dX10_plays_274 : decode cX10_plays 274 = .ok (.iconst 1, 1) := by decide +kernel
theorem dX10_plays_275 : decode cX10_plays 275 = .ok (.iload_n 2, 1) := by decide +kernel
theorem dX10_plays_276 : decode cX10_plays 276 = .ok (.iadd, 1) := by decide +kernel
theorem dX10_plays_277 : decode cX10_plays 277 = .ok (.iconst 0, 1) := by decide +kernel
theorem dX10_plays_278 : decode cX10_plays 278 = .ok (.iastore, 1) := by decide +kernel
theorem dX10_plays_279 : decode cX10_plays 279 = .ok (.aload_n 0, 1) := by decide +kernel
theorem dX10_plays_280 : decode cX10_plays 280 = .ok (.getfield 11, 3) := by decide +kernel
theorem dX10_plays_283 : decode cX10_plays 283 = .ok (.iconst 1, 1) := by decide +kernel
theorem dX10_plays_284 : decode cX10_plays 284 = .ok (.iload_n 3, 1) := by decide +kernel
theorem dX10_plays_285 : decode cX10_plays 285 = .ok (.iadd, 1) := by decide +kernel
theorem dX10_plays_286 : decode cX10_plays 286 = .ok (.iconst 1, 1) := by decide +kernel
theorem dX10_plays_287 : decode cX10_plays 287 = .ok (.aload_n 0, 1) := by decide +kernel
theorem dX10_plays_288 : decode cX10_plays 288 = .ok (.iload 4, 2) := by decide +kernel
theorem dX10_plays_290 : decode cX10_plays 290 = .ok (.iload_n 3, 1) := by decide +kernel
theorem dX10_plays_291 : decode cX10_plays 291 = .ok (.iload 5, 2) := by decide +kernel
theorem dX10_plays_293 : decode cX10_plays 293 = .ok (.invokevirtual 206, 3) := by decide +kernel
theorem dX10_plays_296 : decode cX10_plays 296 = .ok (.iadd, 1) := by decide +kernel
theorem dX10_plays_297 : decode cX10_plays 297 = .ok (.bipush 6, 2) := by decide +kernel
theorem dX10_plays_299 : decode cX10_plays 299 = .ok (.iload 5, 2) := by decide +kernel
theorem dX10_plays_301 : decode cX10_plays 301 = .ok (.imul, 1) := by decide +kernel
theorem dX10_plays_302 : decode cX10_plays 302 = .ok (.iadd, 1) := by decide +kernel
theorem dX10_plays_303 : decode cX10_plays 303 = .ok (.iastore, 1) := by decide +kernel
theorem dX10_plays_304 : decode cX10_plays 304 = .ok (.aload_n 0, 1) := by decide +kernel
theorem dX10_plays_305 : decode cX10_plays 305 = .ok (.iload_n 2, 1) := by decide +kernel
theorem dX10_plays_306 : decode cX10_plays 306 = .ok (.invokevirtual 199, 3) := by decide +kernel
theorem dX10_plays_309 : decode cX10_plays 309 = .ok (.aload_n 0, 1) := by decide +kernel
theorem dX10_plays_310 : decode cX10_plays 310 = .ok (.iload_n 3, 1) := by decide +kernel
theorem dX10_plays_311 : decode cX10_plays 311 = .ok (.invokevirtual 199, 3) := by decide +kernel
theorem dX10_plays_314 : decode cX10_plays 314 = .ok (.aload_n 0, 1) := by decide +kernel
theorem dX10_plays_315 : decode cX10_plays 315 = .ok (.getfield 11, 3) := by decide +kernel
theorem dX10_plays_318 : decode cX10_plays 318 = .ok (.iconst 0, 1) := by decide +kernel
theorem dX10_plays_319 : decode cX10_plays 319 = .ok (.iconst 1, 1) := by decide +kernel
theorem dX10_plays_320 : decode cX10_plays 320 = .ok (.iload 5, 2) := by decide +kernel
theorem dX10_plays_322 : decode cX10_plays 322 = .ok (.isub, 1) := by decide +kernel
theorem dX10_plays_323 : decode cX10_plays 323 = .ok (.iastore, 1) := by decide +kernel
theorem dX10_plays_324 : decode cX10_plays 324 = .ok (.return_, 1) := by decide +kernel
theorem dX10_keeps_0 : decode cX10_keeps 0 = .ok (.iconst 0, 1) := by decide +kernel
theorem dX10_keeps_1 : decode cX10_keeps 1 = .ok (.istore_n 2, 1) := by decide +kernel
theorem dX10_keeps_2 : decode cX10_keeps 2 = .ok (.iload_n 2, 1) := by decide +kernel
theorem dX10_keeps_3 : decode cX10_keeps 3 = .ok (.bipush 53, 2) := by decide +kernel
theorem dX10_keeps_5 : decode cX10_keeps 5 = .ok (.if_icmp .ge 26, 3) := by decide +kernel
theorem dX10_keeps_8 : decode cX10_keeps 8 = .ok (.aload_n 0, 1) := by decide +kernel
theorem dX10_keeps_9 : decode cX10_keeps 9 = .ok (.getfield 39, 3) := by decide +kernel
theorem dX10_keeps_12 : decode cX10_keeps 12 = .ok (.bipush 53, 2) := by decide +kernel
theorem dX10_keeps_14 : decode cX10_keeps 14 = .ok (.iload_n 1, 1) := by decide +kernel
theorem dX10_keeps_15 : decode cX10_keeps 15 = .ok (.imul, 1) := by decide +kernel
theorem dX10_keeps_16 : decode cX10_keeps 16 = .ok (.iload_n 2, 1) := by decide +kernel
theorem dX10_keeps_17 : decode cX10_keeps 17 = .ok (.iadd, 1) := by decide +kernel
theorem dX10_keeps_18 : decode cX10_keeps 18 = .ok (.aload_n 0, 1) := by decide +kernel
theorem dX10_keeps_19 : decode cX10_keeps 19 = .ok (.getfield 11, 3) := by decide +kernel
theorem dX10_keeps_22 : decode cX10_keeps 22 = .ok (.iload_n 2, 1) := by decide +kernel
theorem dX10_keeps_23 : decode cX10_keeps 23 = .ok (.iaload, 1) := by decide +kernel
theorem dX10_keeps_24 : decode cX10_keeps 24 = .ok (.iastore, 1) := by decide +kernel
theorem dX10_keeps_25 : decode cX10_keeps 25 = .ok (.iinc 2 1, 3) := by decide +kernel
theorem dX10_keeps_28 : decode cX10_keeps 28 = .ok (.goto (-26), 3) := by decide +kernel
theorem dX10_keeps_31 : decode cX10_keeps 31 = .ok (.return_, 1) := by decide +kernel
theorem dX10_again_0 : decode cX10_again 0 = .ok (.iconst 0, 1) := by decide +kernel
theorem dX10_again_1 : decode cX10_again 1 = .ok (.istore_n 2, 1) := by decide +kernel
theorem dX10_again_2 : decode cX10_again 2 = .ok (.iload_n 2, 1) := by decide +kernel
theorem dX10_again_3 : decode cX10_again 3 = .ok (.bipush 53, 2) := by decide +kernel
theorem dX10_again_5 : decode cX10_again 5 = .ok (.if_icmp .ge 26, 3) := by decide +kernel
theorem dX10_again_8 : decode cX10_again 8 = .ok (.aload_n 0, 1) := by decide +kernel
theorem dX10_again_9 : decode cX10_again 9 = .ok (.getfield 11, 3) := by decide +kernel
theorem dX10_again_12 : decode cX10_again 12 = .ok (.iload_n 2, 1) := by decide +kernel
theorem dX10_again_13 : decode cX10_again 13 = .ok (.aload_n 0, 1) := by decide +kernel
theorem dX10_again_14 : decode cX10_again 14 = .ok (.getfield 39, 3) := by decide +kernel
theorem dX10_again_17 : decode cX10_again 17 = .ok (.bipush 53, 2) := by decide +kernel
theorem dX10_again_19 : decode cX10_again 19 = .ok (.iload_n 1, 1) := by decide +kernel
theorem dX10_again_20 : decode cX10_again 20 = .ok (.imul, 1) := by decide +kernel
theorem dX10_again_21 : decode cX10_again 21 = .ok (.iload_n 2, 1) := by decide +kernel
theorem dX10_again_22 : decode cX10_again 22 = .ok (.iadd, 1) := by decide +kernel
theorem dX10_again_23 : decode cX10_again 23 = .ok (.iaload, 1) := by decide +kernel
theorem dX10_again_24 : decode cX10_again 24 = .ok (.iastore, 1) := by decide +kernel
theorem dX10_again_25 : decode cX10_again 25 = .ok (.iinc 2 1, 3) := by decide +kernel
theorem dX10_again_28 : decode cX10_again 28 = .ok (.goto (-26), 3) := by decide +kernel
theorem dX10_again_31 : decode cX10_again 31 = .ok (.return_, 1) := by decide +kernel
theorem dX10_adds_0 : decode cX10_adds 0 = .ok (.aload_n 0, 1) := by decide +kernel
theorem dX10_adds_1 : decode cX10_adds 1 = .ok (.getfield 11, 3) := by decide +kernel
theorem dX10_adds_4 : decode cX10_adds 4 = .ok (.iconst 0, 1) := by decide +kernel
theorem dX10_adds_5 : decode cX10_adds 5 = .ok (.iaload, 1) := by decide +kernel
theorem dX10_adds_6 : decode cX10_adds 6 = .ok (.istore 6, 2) := by decide +kernel
theorem dX10_adds_8 : decode cX10_adds 8 = .ok (.aload_n 0, 1) := by decide +kernel
theorem dX10_adds_9 : decode cX10_adds 9 = .ok (.iload_n 1, 1) := by decide +kernel
theorem dX10_adds_10 : decode cX10_adds 10 = .ok (.invokevirtual 210, 3) := by decide +kernel
theorem dX10_adds_13 : decode cX10_adds 13 = .ok (.aload_n 0, 1) := by decide +kernel
theorem dX10_adds_14 : decode cX10_adds 14 = .ok (.iload_n 2, 1) := by decide +kernel
theorem dX10_adds_15 : decode cX10_adds 15 = .ok (.iload_n 3, 1) := by decide +kernel
theorem dX10_adds_16 : decode cX10_adds 16 = .ok (.iload 4, 2) := by decide +kernel
theorem dX10_adds_18 : decode cX10_adds 18 = .ok (.iload 5, 2) := by decide +kernel
theorem dX10_adds_20 : decode cX10_adds 20 = .ok (.invokevirtual 213, 3) := by decide +kernel
theorem dX10_adds_23 : decode cX10_adds 23 = .ok (.aload_n 0, 1) := by decide +kernel
theorem dX10_adds_24 : decode cX10_adds 24 = .ok (.iload 6, 2) := by decide +kernel
theorem dX10_adds_26 : decode cX10_adds 26 = .ok (.invokevirtual 216, 3) := by decide +kernel
theorem dX10_adds_29 : decode cX10_adds 29 = .ok (.istore 7, 2) := by decide +kernel
theorem dX10_adds_31 : decode cX10_adds 31 = .ok (.aload_n 0, 1) := by decide +kernel
theorem dX10_adds_32 : decode cX10_adds 32 = .ok (.iload_n 1, 1) := by decide +kernel
theorem dX10_adds_33 : decode cX10_adds 33 = .ok (.invokevirtual 219, 3) := by decide +kernel
theorem dX10_adds_36 : decode cX10_adds 36 = .ok (.iload 7, 2) := by decide +kernel
theorem dX10_adds_38 : decode cX10_adds 38 = .ok (.ifCond .ne 4, 3) := by decide +kernel
theorem dX10_adds_41 : decode cX10_adds 41 = .ok (.return_, 1) := by decide +kernel
theorem dX10_adds_42 : decode cX10_adds 42 = .ok (.sipush 1600, 3) := by decide +kernel
theorem dX10_adds_45 : decode cX10_adds 45 = .ok (.iload_n 1, 1) := by decide +kernel
theorem dX10_adds_46 : decode cX10_adds 46 = .ok (.imul, 1) := by decide +kernel
theorem dX10_adds_47 : decode cX10_adds 47 = .ok (.aload_n 0, 1) := by decide +kernel
theorem dX10_adds_48 : decode cX10_adds 48 = .ok (.getfield 36, 3) := by decide +kernel
theorem dX10_adds_51 : decode cX10_adds 51 = .ok (.iload_n 1, 1) := by decide +kernel
theorem dX10_adds_52 : decode cX10_adds 52 = .ok (.dup2, 1) := by decide +kernel
theorem dX10_adds_53 : decode cX10_adds 53 = .ok (.iaload, 1) := by decide +kernel
theorem dX10_adds_54 : decode cX10_adds 54 = .ok (.dup_x2, 1) := by decide +kernel
theorem dX10_adds_55 : decode cX10_adds 55 = .ok (.iconst 1, 1) := by decide +kernel
theorem dX10_adds_56 : decode cX10_adds 56 = .ok (.iadd, 1) := by decide +kernel
theorem dX10_adds_57 : decode cX10_adds 57 = .ok (.iastore, 1) := by decide +kernel
theorem dX10_adds_58 : decode cX10_adds 58 = .ok (.iadd, 1) := by decide +kernel
theorem dX10_adds_59 : decode cX10_adds 59 = .ok (.istore 8, 2) := by decide +kernel
theorem dX10_adds_61 : decode cX10_adds 61 = .ok (.aload_n 0, 1) := by decide +kernel
theorem dX10_adds_62 : decode cX10_adds 62 = .ok (.getfield 24, 3) := by decide +kernel
theorem dX10_adds_65 : decode cX10_adds 65 = .ok (.iload 8, 2) := by decide +kernel
theorem dX10_adds_67 : decode cX10_adds 67 = .ok (.iload_n 2, 1) := by decide +kernel
theorem dX10_adds_68 : decode cX10_adds 68 = .ok (.iastore, 1) := by decide +kernel
theorem dX10_adds_69 : decode cX10_adds 69 = .ok (.aload_n 0, 1) := by decide +kernel
theorem dX10_adds_70 : decode cX10_adds 70 = .ok (.getfield 27, 3) := by decide +kernel
theorem dX10_adds_73 : decode cX10_adds 73 = .ok (.iload 8, 2) := by decide +kernel
theorem dX10_adds_75 : decode cX10_adds 75 = .ok (.iload_n 3, 1) := by decide +kernel
theorem dX10_adds_76 : decode cX10_adds 76 = .ok (.iastore, 1) := by decide +kernel
theorem dX10_adds_77 : decode cX10_adds 77 = .ok (.aload_n 0, 1) := by decide +kernel
theorem dX10_adds_78 : decode cX10_adds 78 = .ok (.getfield 30, 3) := by decide +kernel
theorem dX10_adds_81 : decode cX10_adds 81 = .ok (.iload 8, 2) := by decide +kernel
theorem dX10_adds_83 : decode cX10_adds 83 = .ok (.iload 4, 2) := by decide +kernel
theorem dX10_adds_85 : decode cX10_adds 85 = .ok (.iastore, 1) := by decide +kernel
theorem dX10_adds_86 : decode cX10_adds 86 = .ok (.aload_n 0, 1) := by decide +kernel
theorem dX10_adds_87 : decode cX10_adds 87 = .ok (.getfield 33, 3) := by decide +kernel
theorem dX10_adds_90 : decode cX10_adds 90 = .ok (.iload 8, 2) := by decide +kernel
theorem dX10_adds_92 : decode cX10_adds 92 = .ok (.iload 5, 2) := by decide +kernel
theorem dX10_adds_94 : decode cX10_adds 94 = .ok (.iastore, 1) := by decide +kernel
theorem dX10_adds_95 : decode cX10_adds 95 = .ok (.return_, 1) := by decide +kernel
theorem dX10_isClear_0 : decode cX10_isClear 0 = .ok (.aload_n 0, 1) := by decide +kernel
theorem dX10_isClear_1 : decode cX10_isClear 1 = .ok (.iload_n 1, 1) := by decide +kernel
theorem dX10_isClear_2 : decode cX10_isClear 2 = .ok (.invokevirtual 172, 3) := by decide +kernel
theorem dX10_isClear_5 : decode cX10_isClear 5 = .ok (.ifCond .ne 27, 3) := by decide +kernel
theorem dX10_isClear_8 : decode cX10_isClear 8 = .ok (.iload_n 1, 1) := by decide +kernel
theorem dX10_isClear_9 : decode cX10_isClear 9 = .ok (.aload_n 0, 1) := by decide +kernel
theorem dX10_isClear_10 : decode cX10_isClear 10 = .ok (.getfield 11, 3) := by decide +kernel
theorem dX10_isClear_13 : decode cX10_isClear 13 = .ok (.iload_n 2, 1) := by decide +kernel
theorem dX10_isClear_14 : decode cX10_isClear 14 = .ok (.iconst 2, 1) := by decide +kernel
theorem dX10_isClear_15 : decode cX10_isClear 15 = .ok (.iadd, 1) := by decide +kernel
theorem dX10_isClear_16 : decode cX10_isClear 16 = .ok (.iaload, 1) := by decide +kernel
theorem dX10_isClear_17 : decode cX10_isClear 17 = .ok (.if_icmp .eq 15, 3) := by decide +kernel
theorem dX10_isClear_20 : decode cX10_isClear 20 = .ok (.iload_n 1, 1) := by decide +kernel
theorem dX10_isClear_21 : decode cX10_isClear 21 = .ok (.aload_n 0, 1) := by decide +kernel
theorem dX10_isClear_22 : decode cX10_isClear 22 = .ok (.getfield 11, 3) := by decide +kernel
theorem dX10_isClear_25 : decode cX10_isClear 25 = .ok (.iload_n 2, 1) := by decide +kernel
theorem dX10_isClear_26 : decode cX10_isClear 26 = .ok (.iconst 4, 1) := by decide +kernel
theorem dX10_isClear_27 : decode cX10_isClear 27 = .ok (.iadd, 1) := by decide +kernel
theorem dX10_isClear_28 : decode cX10_isClear 28 = .ok (.iaload, 1) := by decide +kernel
theorem dX10_isClear_29 : decode cX10_isClear 29 = .ok (.if_icmp .ne 7, 3) := by decide +kernel
theorem dX10_isClear_32 : decode cX10_isClear 32 = .ok (.iconst 1, 1) := by decide +kernel
theorem dX10_isClear_33 : decode cX10_isClear 33 = .ok (.goto 4, 3) := by decide +kernel
theorem dX10_isClear_36 : decode cX10_isClear 36 = .ok (.iconst 0, 1) := by decide +kernel
theorem dX10_isClear_37 : decode cX10_isClear 37 = .ok (.ireturn, 1) := by decide +kernel
theorem dX10_canCastle_0 : decode cX10_canCastle 0 = .ok (.iload_n 1, 1) := by decide +kernel
theorem dX10_canCastle_1 : decode cX10_canCastle 1 = .ok (.invokestatic 72, 3) := by decide +kernel
theorem dX10_canCastle_4 : decode cX10_canCastle 4 = .ok (.istore_n 2, 1) := by decide +kernel
theorem dX10_canCastle_5 : decode cX10_canCastle 5 = .ok (.aload_n 0, 1) := by decide +kernel
theorem dX10_canCastle_6 : decode cX10_canCastle 6 = .ok (.getfield 11, 3) := by decide +kernel
theorem dX10_canCastle_9 : decode cX10_canCastle 9 = .ok (.iconst 0, 1) := by decide +kernel
theorem dX10_canCastle_10 : decode cX10_canCastle 10 = .ok (.iaload, 1) := by decide +kernel
theorem dX10_canCastle_11 : decode cX10_canCastle 11 = .ok (.istore_n 3, 1) := by decide +kernel
theorem dX10_canCastle_12 : decode cX10_canCastle 12 = .ok (.aload_n 0, 1) := by decide +kernel
theorem dX10_canCastle_13 : decode cX10_canCastle 13 = .ok (.getfield 11, 3) := by decide +kernel
theorem dX10_canCastle_16 : decode cX10_canCastle 16 = .ok (.iload_n 2, 1) := by decide +kernel
theorem dX10_canCastle_17 : decode cX10_canCastle 17 = .ok (.iaload, 1) := by decide +kernel
theorem dX10_canCastle_18 : decode cX10_canCastle 18 = .ok (.ifCond .eq 27, 3) := by decide +kernel
theorem dX10_canCastle_21 : decode cX10_canCastle 21 = .ok (.aload_n 0, 1) := by decide +kernel
theorem dX10_canCastle_22 : decode cX10_canCastle 22 = .ok (.getfield 11, 3) := by decide +kernel
theorem dX10_canCastle_25 : decode cX10_canCastle 25 = .ok (.bipush 49, 2) := by decide +kernel
theorem dX10_canCastle_27 : decode cX10_canCastle 27 = .ok (.iload_n 1, 1) := by decide +kernel
theorem dX10_canCastle_28 : decode cX10_canCastle 28 = .ok (.iadd, 1) := by decide +kernel
theorem dX10_canCastle_29 : decode cX10_canCastle 29 = .ok (.iaload, 1) := by decide +kernel
theorem dX10_canCastle_30 : decode cX10_canCastle 30 = .ok (.ifCond .eq 15, 3) := by decide +kernel
theorem dX10_canCastle_33 : decode cX10_canCastle 33 = .ok (.aload_n 0, 1) := by decide +kernel
theorem dX10_canCastle_34 : decode cX10_canCastle 34 = .ok (.getfield 11, 3) := by decide +kernel
theorem dX10_canCastle_37 : decode cX10_canCastle 37 = .ok (.iload_n 2, 1) := by decide +kernel
theorem dX10_canCastle_38 : decode cX10_canCastle 38 = .ok (.iconst 1, 1) := by decide +kernel
theorem dX10_canCastle_39 : decode cX10_canCastle 39 = .ok (.iadd, 1) := by decide +kernel
theorem dX10_canCastle_40 : decode cX10_canCastle 40 = .ok (.iaload, 1) := by decide +kernel
theorem dX10_canCastle_41 : decode cX10_canCastle 41 = .ok (.iload_n 3, 1) := by decide +kernel
theorem dX10_canCastle_42 : decode cX10_canCastle 42 = .ok (.if_icmp .eq 5, 3) := by decide +kernel
theorem dX10_canCastle_45 : decode cX10_canCastle 45 = .ok (.iconst 0, 1) := by decide +kernel
theorem dX10_canCastle_46 : decode cX10_canCastle 46 = .ok (.ireturn, 1) := by decide +kernel
theorem dX10_canCastle_47 : decode cX10_canCastle 47 = .ok (.aload_n 0, 1) := by decide +kernel
theorem dX10_canCastle_48 : decode cX10_canCastle 48 = .ok (.getfield 11, 3) := by decide +kernel
theorem dX10_canCastle_51 : decode cX10_canCastle 51 = .ok (.iload_n 2, 1) := by decide +kernel
theorem dX10_canCastle_52 : decode cX10_canCastle 52 = .ok (.iconst 2, 1) := by decide +kernel
theorem dX10_canCastle_53 : decode cX10_canCastle 53 = .ok (.iadd, 1) := by decide +kernel
theorem dX10_canCastle_54 : decode cX10_canCastle 54 = .ok (.iaload, 1) := by decide +kernel
theorem dX10_canCastle_55 : decode cX10_canCastle 55 = .ok (.istore 4, 2) := by decide +kernel
theorem dX10_canCastle_57 : decode cX10_canCastle 57 = .ok (.aload_n 0, 1) := by decide +kernel
theorem dX10_canCastle_58 : decode cX10_canCastle 58 = .ok (.getfield 11, 3) := by decide +kernel
theorem dX10_canCastle_61 : decode cX10_canCastle 61 = .ok (.iload_n 2, 1) := by decide +kernel
theorem dX10_canCastle_62 : decode cX10_canCastle 62 = .ok (.iconst 3, 1) := by decide +kernel
theorem dX10_canCastle_63 : decode cX10_canCastle 63 = .ok (.iadd, 1) := by decide +kernel
theorem dX10_canCastle_64 : decode cX10_canCastle 64 = .ok (.iaload, 1) := by decide +kernel
theorem dX10_canCastle_65 : decode cX10_canCastle 65 = .ok (.istore 5, 2) := by decide +kernel
theorem dX10_canCastle_67 : decode cX10_canCastle 67 = .ok (.aload_n 0, 1) := by decide +kernel
theorem dX10_canCastle_68 : decode cX10_canCastle 68 = .ok (.getfield 11, 3) := by decide +kernel
theorem dX10_canCastle_71 : decode cX10_canCastle 71 = .ok (.iload_n 2, 1) := by decide +kernel
theorem dX10_canCastle_72 : decode cX10_canCastle 72 = .ok (.iconst 4, 1) := by decide +kernel
theorem dX10_canCastle_73 : decode cX10_canCastle 73 = .ok (.iadd, 1) := by decide +kernel
theorem dX10_canCastle_74 : decode cX10_canCastle 74 = .ok (.iaload, 1) := by decide +kernel
theorem dX10_canCastle_75 : decode cX10_canCastle 75 = .ok (.istore 6, 2) := by decide +kernel
theorem dX10_canCastle_77 : decode cX10_canCastle 77 = .ok (.aload_n 0, 1) := by decide +kernel
theorem dX10_canCastle_78 : decode cX10_canCastle 78 = .ok (.iload 4, 2) := by decide +kernel
theorem dX10_canCastle_80 : decode cX10_canCastle 80 = .ok (.iload_n 3, 1) := by decide +kernel
theorem dX10_canCastle_81 : decode cX10_canCastle 81 = .ok (.invokevirtual 175, 3) := by decide +kernel
theorem dX10_canCastle_84 : decode cX10_canCastle 84 = .ok (.ifCond .eq 59, 3) := by decide +kernel
theorem dX10_canCastle_87 : decode cX10_canCastle 87 = .ok (.aload_n 0, 1) := by decide +kernel
theorem dX10_canCastle_88 : decode cX10_canCastle 88 = .ok (.getfield 11, 3) := by decide +kernel
theorem dX10_canCastle_91 : decode cX10_canCastle 91 = .ok (.aload_n 0, 1) := by decide +kernel
theorem dX10_canCastle_92 : decode cX10_canCastle 92 = .ok (.iload 4, 2) := by decide +kernel
theorem dX10_canCastle_94 : decode cX10_canCastle 94 = .ok (.invokevirtual 69, 3) := by decide +kernel
theorem dX10_canCastle_97 : decode cX10_canCastle 97 = .ok (.bipush 6, 2) := by decide +kernel
theorem dX10_canCastle_99 : decode cX10_canCastle 99 = .ok (.irem, 1) := by decide +kernel
theorem dX10_canCastle_100 : decode cX10_canCastle 100 = .ok (.invokestatic 54, 3) := by decide +kernel
theorem dX10_canCastle_103 : decode cX10_canCastle 103 = .ok (.iaload, 1) := by decide +kernel
theorem dX10_canCastle_104 : decode cX10_canCastle 104 = .ok (.ifCond .eq 39, 3) := by decide +kernel
theorem dX10_canCastle_107 : decode cX10_canCastle 107 = .ok (.aload_n 0, 1) := by decide +kernel
theorem dX10_canCastle_108 : decode cX10_canCastle 108 = .ok (.iload 6, 2) := by decide +kernel
theorem dX10_canCastle_110 : decode cX10_canCastle 110 = .ok (.iload_n 3, 1) := by decide +kernel
theorem dX10_canCastle_111 : decode cX10_canCastle 111 = .ok (.invokevirtual 175, 3) := by decide +kernel
theorem dX10_canCastle_114 : decode cX10_canCastle 114 = .ok (.ifCond .eq 29, 3) := by decide +kernel
theorem dX10_canCastle_117 : decode cX10_canCastle 117 = .ok (.aload_n 0, 1) := by decide +kernel
theorem dX10_canCastle_118 : decode cX10_canCastle 118 = .ok (.iload 5, 2) := by decide +kernel
theorem dX10_canCastle_120 : decode cX10_canCastle 120 = .ok (.iload_n 2, 1) := by decide +kernel
theorem dX10_canCastle_121 : decode cX10_canCastle 121 = .ok (.invokevirtual 222, 3) := by decide +kernel
theorem dX10_canCastle_124 : decode cX10_canCastle 124 = .ok (.ifCond .eq 19, 3) := by decide +kernel
theorem dX10_canCastle_127 : decode cX10_canCastle 127 = .ok (.aload_n 0, 1) := by decide +kernel
theorem dX10_canCastle_128 : decode cX10_canCastle 128 = .ok (.aload_n 0, 1) := by decide +kernel
theorem dX10_canCastle_129 : decode cX10_canCastle 129 = .ok (.getfield 11, 3) := by decide +kernel
theorem dX10_canCastle_132 : decode cX10_canCastle 132 = .ok (.iload_n 2, 1) := by decide +kernel
theorem dX10_canCastle_133 : decode cX10_canCastle 133 = .ok (.iconst 5, 1) := by decide +kernel
theorem dX10_canCastle_134 : decode cX10_canCastle 134 = .ok (.iadd, 1) := by decide +kernel
theorem dX10_canCastle_135 : decode cX10_canCastle 135 = .ok (.iaload, 1) := by decide +kernel
theorem dX10_canCastle_136 : decode cX10_canCastle 136 = .ok (.iload_n 2, 1) := by decide +kernel
theorem dX10_canCastle_137 : decode cX10_canCastle 137 = .ok (.invokevirtual 222, 3) := by decide +kernel
theorem dX10_canCastle_140 : decode cX10_canCastle 140 = .ok (.ifCond .ne 5, 3) := by decide +kernel
theorem dX10_canCastle_143 : decode cX10_canCastle 143 = .ok (.iconst 0, 1) := by decide +kernel
theorem dX10_canCastle_144 : decode cX10_canCastle 144 = .ok (.ireturn, 1) := by decide +kernel
theorem dX10_canCastle_145 : decode cX10_canCastle 145 = .ok (.iload 4, 2) := by decide +kernel
theorem dX10_canCastle_147 : decode cX10_canCastle 147 = .ok (.iload 6, 2) := by decide +kernel
theorem dX10_canCastle_149 : decode cX10_canCastle 149 = .ok (.invokestatic 203, 3) := by decide +kernel
theorem dX10_canCastle_152 : decode cX10_canCastle 152 = .ok (.iconst 1, 1) := by decide +kernel
theorem dX10_canCastle_153 : decode cX10_canCastle 153 = .ok (.iadd, 1) := by decide +kernel
theorem dX10_canCastle_154 : decode cX10_canCastle 154 = .ok (.istore 7, 2) := by decide +kernel
theorem dX10_canCastle_156 : decode cX10_canCastle 156 = .ok (.iload 7, 2) := by decide +kernel
theorem dX10_canCastle_158 : decode cX10_canCastle 158 = .ok (.iload 4, 2) := by decide +kernel
theorem dX10_canCastle_160 : decode cX10_canCastle 160 = .ok (.iload 6, 2) := by decide +kernel
theorem dX10_canCastle_162 : decode cX10_canCastle 162 = .ok (.invokestatic 105, 3) := by decide +kernel
theorem dX10_canCastle_165 : decode cX10_canCastle 165 = .ok (.if_icmp .ge 20, 3) := by decide +kernel
theorem dX10_canCastle_168 : decode cX10_canCastle 168 = .ok (.aload_n 0, 1) := by decide +kernel
theorem dX10_canCastle_169 : decode cX10_canCastle 169 = .ok (.iload 7, 2) := by decide +kernel
theorem dX10_canCastle_171 : decode cX10_canCastle 171 = .ok (.invokevirtual 172, 3) := by decide +kernel
theorem dX10_canCastle_174 : decode cX10_canCastle 174 = .ok (.ifCond .ne 5, 3) := by decide +kernel
theorem dX10_canCastle_177 : decode cX10_canCastle 177 = .ok (.iconst 0, 1) := by decide +kernel
theorem dX10_canCastle_178 : decode cX10_canCastle 178 = .ok (.ireturn, 1) := by decide +kernel
theorem dX10_canCastle_179 : decode cX10_canCastle 179 = .ok (.iinc 7 1, 3) := by decide +kernel
theorem dX10_canCastle_182 : decode cX10_canCastle 182 = .ok (.goto (-26), 3) := by decide +kernel
theorem dX10_canCastle_185 : decode cX10_canCastle 185 = .ok (.aload_n 0, 1) := by decide +kernel
theorem dX10_canCastle_186 : decode cX10_canCastle 186 = .ok (.iconst 1, 1) := by decide +kernel
theorem dX10_canCastle_187 : decode cX10_canCastle 187 = .ok (.iload_n 3, 1) := by decide +kernel
theorem dX10_canCastle_188 : decode cX10_canCastle 188 = .ok (.isub, 1) := by decide +kernel
theorem dX10_canCastle_189 : decode cX10_canCastle 189 = .ok (.invokevirtual 190, 3) := by decide +kernel
theorem dX10_canCastle_192 : decode cX10_canCastle 192 = .ok (.lstore 7, 2) := by decide +kernel
theorem dX10_canCastle_194 : decode cX10_canCastle 194 = .ok (.iload 4, 2) := by decide +kernel
theorem dX10_canCastle_196 : decode cX10_canCastle 196 = .ok (.iload 5, 2) := by decide +kernel
theorem dX10_canCastle_198 : decode cX10_canCastle 198 = .ok (.invokestatic 203, 3) := by decide +kernel
theorem dX10_canCastle_201 : decode cX10_canCastle 201 = .ok (.istore 9, 2) := by decide +kernel
theorem dX10_canCastle_203 : decode cX10_canCastle 203 = .ok (.iload 9, 2) := by decide +kernel
theorem dX10_canCastle_205 : decode cX10_canCastle 205 = .ok (.iload 4, 2) := by decide +kernel
theorem dX10_canCastle_207 : decode cX10_canCastle 207 = .ok (.iload 5, 2) := by decide +kernel
theorem dX10_canCastle_209 : decode cX10_canCastle 209 = .ok (.invokestatic 105, 3) := by decide +kernel
theorem dX10_canCastle_212 : decode cX10_canCastle 212 = .ok (.if_icmp .gt 21, 3) := by decide +kernel
theorem dX10_canCastle_215 : decode cX10_canCastle 215 = .ok (.lload 7, 2) := by decide +kernel
theorem dX10_canCastle_217 : decode cX10_canCastle 217 = .ok (.iload 9, 2) := by decide +kernel
theorem dX10_canCastle_219 : decode cX10_canCastle 219 = .ok (.invokestatic 225, 3) := by decide +kernel
theorem dX10_canCastle_222 : decode cX10_canCastle 222 = .ok (.ifCond .eq 5, 3) := by decide +kernel
theorem dX10_canCastle_225 : decode cX10_canCastle 225 = .ok (.iconst 0, 1) := by decide +kernel
theorem dX10_canCastle_226 : decode cX10_canCastle 226 = .ok (.ireturn, 1) := by decide +kernel
theorem dX10_canCastle_227 : decode cX10_canCastle 227 = .ok (.iinc 9 1, 3) := by decide +kernel
theorem dX10_canCastle_230 : decode cX10_canCastle 230 = .ok (.goto (-27), 3) := by decide +kernel
theorem dX10_canCastle_233 : decode cX10_canCastle 233 = .ok (.iconst 1, 1) := by decide +kernel
theorem dX10_canCastle_234 : decode cX10_canCastle 234 = .ok (.ireturn, 1) := by decide +kernel
theorem dX10_lists_0 : decode cX10_lists 0 = .ok (.aload_n 0, 1) := by decide +kernel
theorem dX10_lists_1 : decode cX10_lists 1 = .ok (.getfield 36, 3) := by decide +kernel
theorem dX10_lists_4 : decode cX10_lists 4 = .ok (.iload_n 1, 1) := by decide +kernel
theorem dX10_lists_5 : decode cX10_lists 5 = .ok (.iconst 0, 1) := by decide +kernel
theorem dX10_lists_6 : decode cX10_lists 6 = .ok (.iastore, 1) := by decide +kernel
theorem dX10_lists_7 : decode cX10_lists 7 = .ok (.aload_n 0, 1) := by decide +kernel
theorem dX10_lists_8 : decode cX10_lists 8 = .ok (.getfield 11, 3) := by decide +kernel
theorem dX10_lists_11 : decode cX10_lists 11 = .ok (.iconst 0, 1) := by decide +kernel
theorem dX10_lists_12 : decode cX10_lists 12 = .ok (.iaload, 1) := by decide +kernel
theorem dX10_lists_13 : decode cX10_lists 13 = .ok (.istore_n 2, 1) := by decide +kernel
theorem dX10_lists_14 : decode cX10_lists 14 = .ok (.iconst 0, 1) := by decide +kernel
theorem dX10_lists_15 : decode cX10_lists 15 = .ok (.istore_n 3, 1) := by decide +kernel
theorem dX10_lists_16 : decode cX10_lists 16 = .ok (.iload_n 3, 1) := by decide +kernel
theorem dX10_lists_17 : decode cX10_lists 17 = .ok (.aload_n 0, 1) := by decide +kernel
theorem dX10_lists_18 : decode cX10_lists 18 = .ok (.invokevirtual 65, 3) := by decide +kernel
theorem dX10_lists_21 : decode cX10_lists 21 = .ok (.if_icmp .ge 81, 3) := by decide +kernel
theorem dX10_lists_24 : decode cX10_lists 24 = .ok (.aload_n 0, 1) := by decide +kernel
theorem dX10_lists_25 : decode cX10_lists 25 = .ok (.iload_n 3, 1) := by decide +kernel
theorem dX10_lists_26 : decode cX10_lists 26 = .ok (.iload_n 2, 1) := by decide +kernel
theorem dX10_lists_27 : decode cX10_lists 27 = .ok (.invokevirtual 175, 3) := by decide +kernel
theorem dX10_lists_30 : decode cX10_lists 30 = .ok (.ifCond .ne 6, 3) := by decide +kernel
theorem dX10_lists_33 : decode cX10_lists 33 = .ok (.goto 63, 3) := by decide +kernel
theorem dX10_lists_36 : decode cX10_lists 36 = .ok (.aload_n 0, 1) := by decide +kernel
theorem dX10_lists_37 : decode cX10_lists 37 = .ok (.iload_n 3, 1) := by decide +kernel
theorem dX10_lists_38 : decode cX10_lists 38 = .ok (.invokevirtual 69, 3) := by decide +kernel
theorem dX10_lists_41 : decode cX10_lists 41 = .ok (.bipush 6, 2) := by decide +kernel
theorem dX10_lists_43 : decode cX10_lists 43 = .ok (.irem, 1) := by decide +kernel
theorem dX10_lists_44 : decode cX10_lists 44 = .ok (.istore 4, 2) := by decide +kernel
theorem dX10_lists_46 : decode cX10_lists 46 = .ok (.aload_n 0, 1) := by decide +kernel
theorem dX10_lists_47 : decode cX10_lists 47 = .ok (.iload 4, 2) := by decide +kernel
theorem dX10_lists_49 : decode cX10_lists 49 = .ok (.iload_n 3, 1) := by decide +kernel
theorem dX10_lists_50 : decode cX10_lists 50 = .ok (.iload_n 2, 1) := by decide +kernel
theorem dX10_lists_51 : decode cX10_lists 51 = .ok (.iconst 0, 1) := by decide +kernel
theorem dX10_lists_52 : decode cX10_lists 52 = .ok (.invokevirtual 183, 3) := by decide +kernel
theorem dX10_lists_55 : decode cX10_lists 55 = .ok (.lstore 5, 2) := by decide +kernel
theorem dX10_lists_57 : decode cX10_lists 57 = .ok (.iconst 0, 1) := by decide +kernel
theorem dX10_lists_58 : decode cX10_lists 58 = .ok (.istore 7, 2) := by decide +kernel
theorem dX10_lists_60 : decode cX10_lists 60 = .ok (.iload 7, 2) := by decide +kernel
theorem dX10_lists_62 : decode cX10_lists 62 = .ok (.aload_n 0, 1) := by decide +kernel
theorem dX10_lists_63 : decode cX10_lists 63 = .ok (.invokevirtual 65, 3) := by decide +kernel
theorem dX10_lists_66 : decode cX10_lists 66 = .ok (.if_icmp .ge 30, 3) := by decide +kernel
theorem dX10_lists_69 : decode cX10_lists 69 = .ok (.lload 5, 2) := by decide +kernel
theorem dX10_lists_71 : decode cX10_lists 71 = .ok (.iload 7, 2) := by decide +kernel
theorem dX10_lists_73 : decode cX10_lists 73 = .ok (.invokestatic 225, 3) := by decide +kernel
theorem dX10_lists_76 : decode cX10_lists 76 = .ok (.ifCond .eq 14, 3) := by decide +kernel
theorem dX10_lists_79 : decode cX10_lists 79 = .ok (.aload_n 0, 1) := by decide +kernel
theorem dX10_lists_80 : decode cX10_lists 80 = .ok (.iload_n 1, 1) := by decide +kernel
theorem dX10_lists_81 : decode cX10_lists 81 = .ok (.iconst 0, 1) := by decide +kernel
theorem dX10_lists_82 : decode cX10_lists 82 = .ok (.iload_n 3, 1) := by decide +kernel
theorem dX10_lists_83 : decode cX10_lists 83 = .ok (.iload 7, 2) := by decide +kernel
theorem dX10_lists_85 : decode cX10_lists 85 = .ok (.iload 4, 2) := by decide +kernel
theorem dX10_lists_87 : decode cX10_lists 87 = .ok (.invokevirtual 229, 3) := by decide +kernel
theorem dX10_lists_90 : decode cX10_lists 90 = .ok (.iinc 7 1, 3) := by decide +kernel
theorem dX10_lists_93 : decode cX10_lists 93 = .ok (.goto (-33), 3) := by decide +kernel
theorem dX10_lists_96 : decode cX10_lists 96 = .ok (.iinc 3 1, 3) := by decide +kernel
theorem dX10_lists_99 : decode cX10_lists 99 = .ok (.goto (-83), 3) := by decide +kernel
theorem dX10_lists_102 : decode cX10_lists 102 = .ok (.iconst 0, 1) := by decide +kernel
theorem dX10_lists_103 : decode cX10_lists 103 = .ok (.istore_n 3, 1) := by decide +kernel
theorem dX10_lists_104 : decode cX10_lists 104 = .ok (.iload_n 3, 1) := by decide +kernel
theorem dX10_lists_105 : decode cX10_lists 105 = .ok (.iconst 4, 1) := by decide +kernel
theorem dX10_lists_106 : decode cX10_lists 106 = .ok (.if_icmp .ge 46, 3) := by decide +kernel
theorem dX10_lists_109 : decode cX10_lists 109 = .ok (.aload_n 0, 1) := by decide +kernel
theorem dX10_lists_110 : decode cX10_lists 110 = .ok (.iload_n 3, 1) := by decide +kernel
theorem dX10_lists_111 : decode cX10_lists 111 = .ok (.invokevirtual 233, 3) := by decide +kernel
theorem dX10_lists_114 : decode cX10_lists 114 = .ok (.ifCond .eq 32, 3) := by decide +kernel
theorem dX10_lists_117 : decode cX10_lists 117 = .ok (.aload_n 0, 1) := by decide +kernel
theorem dX10_lists_118 : decode cX10_lists 118 = .ok (.iload_n 1, 1) := by decide +kernel
theorem dX10_lists_119 : decode cX10_lists 119 = .ok (.iconst 1, 1) := by decide +kernel
theorem dX10_lists_120 : decode cX10_lists 120 = .ok (.aload_n 0, 1) := by decide +kernel
theorem dX10_lists_121 : decode cX10_lists 121 = .ok (.getfield 11, 3) := by decide +kernel
theorem dX10_lists_124 : decode cX10_lists 124 = .ok (.iload_n 3, 1) := by decide +kernel
theorem dX10_lists_125 : decode cX10_lists 125 = .ok (.invokestatic 72, 3) := by decide +kernel
theorem dX10_lists_128 : decode cX10_lists 128 = .ok (.iconst 2, 1) := by decide +kernel
theorem dX10_lists_129 : decode cX10_lists 129 = .ok (.iadd, 1) := by decide +kernel
theorem dX10_lists_130 : decode cX10_lists 130 = .ok (.iaload, 1) := by decide +kernel
theorem dX10_lists_131 : decode cX10_lists 131 = .ok (.aload_n 0, 1) := by decide +kernel
theorem dX10_lists_132 : decode cX10_lists 132 = .ok (.getfield 11, 3) := by decide +kernel
theorem dX10_lists_135 : decode cX10_lists 135 = .ok (.iload_n 3, 1) := by decide +kernel
theorem dX10_lists_136 : decode cX10_lists 136 = .ok (.invokestatic 72, 3) := by decide +kernel
theorem dX10_lists_139 : decode cX10_lists 139 = .ok (.iconst 3, 1) := by decide +kernel
theorem dX10_lists_140 : decode cX10_lists 140 = .ok (.iadd, 1) := by decide +kernel
theorem dX10_lists_141 : decode cX10_lists 141 = .ok (.iaload, 1) := by decide +kernel
theorem dX10_lists_142 : decode cX10_lists 142 = .ok (.iload_n 3, 1) := by decide +kernel
theorem dX10_lists_143 : decode cX10_lists 143 = .ok (.invokevirtual 229, 3) := by decide +kernel
theorem dX10_lists_146 : decode cX10_lists 146 = .ok (.iinc 3 1, 3) := by decide +kernel
theorem dX10_lists_149 : decode cX10_lists 149 = .ok (.goto (-45), 3) := by decide +kernel
theorem dX10_lists_152 : decode cX10_lists 152 = .ok (.aload_n 0, 1) := by decide +kernel
theorem dX10_lists_153 : decode cX10_lists 153 = .ok (.getfield 11, 3) := by decide +kernel
theorem dX10_lists_156 : decode cX10_lists 156 = .ok (.bipush 55, 2) := by decide +kernel
theorem dX10_lists_158 : decode cX10_lists 158 = .ok (.iaload, 1) := by decide +kernel
theorem dX10_lists_159 : decode cX10_lists 159 = .ok (.ifCond .ne 4, 3) := by decide +kernel
theorem dX10_lists_162 : decode cX10_lists 162 = .ok (.return_, 1) := by decide +kernel
theorem dX10_lists_163 : decode cX10_lists 163 = .ok (.iconst 0, 1) := by decide +kernel
theorem dX10_lists_164 : decode cX10_lists 164 = .ok (.istore_n 3, 1) := by decide +kernel
theorem dX10_lists_165 : decode cX10_lists 165 = .ok (.iload_n 3, 1) := by decide +kernel
theorem dX10_lists_166 : decode cX10_lists 166 = .ok (.bipush 6, 2) := by decide +kernel
theorem dX10_lists_168 : decode cX10_lists 168 = .ok (.if_icmp .ge 85, 3) := by decide +kernel
theorem dX10_lists_171 : decode cX10_lists 171 = .ok (.aload_n 0, 1) := by decide +kernel
theorem dX10_lists_172 : decode cX10_lists 172 = .ok (.getfield 11, 3) := by decide +kernel
theorem dX10_lists_175 : decode cX10_lists 175 = .ok (.bipush 37, 2) := by decide +kernel
theorem dX10_lists_177 : decode cX10_lists 177 = .ok (.bipush 6, 2) := by decide +kernel
theorem dX10_lists_179 : decode cX10_lists 179 = .ok (.iload_n 2, 1) := by decide +kernel
theorem dX10_lists_180 : decode cX10_lists 180 = .ok (.imul, 1) := by decide +kernel
theorem dX10_lists_181 : decode cX10_lists 181 = .ok (.iadd, 1) := by decide +kernel
theorem dX10_lists_182 : decode cX10_lists 182 = .ok (.iload_n 3, 1) := by decide +kernel
theorem dX10_lists_183 : decode cX10_lists 183 = .ok (.iadd, 1) := by decide +kernel
theorem dX10_lists_184 : decode cX10_lists 184 = .ok (.iaload, 1) := by decide +kernel
theorem dX10_lists_185 : decode cX10_lists 185 = .ok (.ifCond .ne 6, 3) := by decide +kernel
theorem dX10_lists_188 : decode cX10_lists 188 = .ok (.goto 59, 3) := by decide +kernel
theorem dX10_lists_191 : decode cX10_lists 191 = .ok (.iconst 0, 1) := by decide +kernel
theorem dX10_lists_192 : decode cX10_lists 192 = .ok (.istore 4, 2) := by decide +kernel
theorem dX10_lists_194 : decode cX10_lists 194 = .ok (.iload 4, 2) := by decide +kernel
theorem dX10_lists_196 : decode cX10_lists 196 = .ok (.aload_n 0, 1) := by decide +kernel
theorem dX10_lists_197 : decode cX10_lists 197 = .ok (.invokevirtual 65, 3) := by decide +kernel
theorem dX10_lists_200 : decode cX10_lists 200 = .ok (.if_icmp .ge 47, 3) := by decide +kernel
theorem dX10_lists_203 : decode cX10_lists 203 = .ok (.aload_n 0, 1) := by decide +kernel
theorem dX10_lists_204 : decode cX10_lists 204 = .ok (.iload 4, 2) := by decide +kernel
theorem dX10_lists_206 : decode cX10_lists 206 = .ok (.invokevirtual 172, 3) := by decide +kernel
theorem dX10_lists_209 : decode cX10_lists 209 = .ok (.ifCond .eq 32, 3) := by decide +kernel
theorem dX10_lists_212 : decode cX10_lists 212 = .ok (.aload_n 0, 1) := by decide +kernel
theorem dX10_lists_213 : decode cX10_lists 213 = .ok (.iload_n 3, 1) := by decide +kernel
theorem dX10_lists_214 : decode cX10_lists 214 = .ok (.invokevirtual 193, 3) := by decide +kernel
theorem dX10_lists_217 : decode cX10_lists 217 = .ok (.ifCond .lt 13, 3) := by decide +kernel
theorem dX10_lists_220 : decode cX10_lists 220 = .ok (.aload_n 0, 1) := by decide +kernel
theorem dX10_lists_221 : decode cX10_lists 221 = .ok (.iload 4, 2) := by decide +kernel
theorem dX10_lists_223 : decode cX10_lists 223 = .ok (.iload_n 2, 1) := by decide +kernel
theorem dX10_lists_224 : decode cX10_lists 224 = .ok (.invokevirtual 196, 3) := by decide +kernel
theorem dX10_lists_227 : decode cX10_lists 227 = .ok (.ifCond .ne 14, 3) := by decide +kernel
theorem dX10_lists_230 : decode cX10_lists 230 = .ok (.aload_n 0, 1) := by decide +kernel
theorem dX10_lists_231 : decode cX10_lists 231 = .ok (.iload_n 1, 1) := by decide +kernel
theorem dX10_lists_232 : decode cX10_lists 232 = .ok (.iconst 2, 1) := by decide +kernel
theorem dX10_lists_233 : decode cX10_lists 233 = .ok (.bipush (-5), 2) := by decide +kernel
theorem dX10_lists_235 : decode cX10_lists 235 = .ok (.iload 4, 2) := by decide +kernel
theorem dX10_lists_237 : decode cX10_lists 237 = .ok (.iload_n 3, 1) := by decide +kernel
theorem dX10_lists_238 : decode cX10_lists 238 = .ok (.invokevirtual 229, 3) := by decide +kernel
theorem dX10_lists_241 : decode cX10_lists 241 = .ok (.iinc 4 1, 3) := by decide +kernel
theorem dX10_lists_244 : decode cX10_lists 244 = .ok (.goto (-50), 3) := by decide +kernel
theorem dX10_lists_247 : decode cX10_lists 247 = .ok (.iinc 3 1, 3) := by decide +kernel
theorem dX10_lists_250 : decode cX10_lists 250 = .ok (.goto (-85), 3) := by decide +kernel
theorem dX10_lists_253 : decode cX10_lists 253 = .ok (.return_, 1) := by decide +kernel
theorem dX10_looks_0 : decode cX10_looks 0 = .ok (.aload_n 0, 1) := by decide +kernel
theorem dX10_looks_1 : decode cX10_looks 1 = .ok (.getfield 75, 3) := by decide +kernel
theorem dX10_looks_4 : decode cX10_looks 4 = .ok (.ifCond .ne 8, 3) := by decide +kernel
theorem dX10_looks_7 : decode cX10_looks 7 = .ok (.aload_n 0, 1) := by decide +kernel
theorem dX10_looks_8 : decode cX10_looks 8 = .ok (.iconst 0, 1) := by decide +kernel
theorem dX10_looks_9 : decode cX10_looks 9 = .ok (.invokevirtual 236, 3) := by decide +kernel
theorem dX10_looks_12 : decode cX10_looks 12 = .ok (.aload_n 0, 1) := by decide +kernel
theorem dX10_looks_13 : decode cX10_looks 13 = .ok (.iconst 1, 1) := by decide +kernel
theorem dX10_looks_14 : decode cX10_looks 14 = .ok (.putfield 75, 3) := by decide +kernel
theorem dX10_looks_17 : decode cX10_looks 17 = .ok (.return_, 1) := by decide +kernel
theorem dX10_captures_0 : decode cX10_captures 0 = .ok (.aload_n 0, 1) := by decide +kernel
theorem dX10_captures_1 : decode cX10_captures 1 = .ok (.getfield 24, 3) := by decide +kernel
theorem dX10_captures_4 : decode cX10_captures 4 = .ok (.iload_n 1, 1) := by decide +kernel
theorem dX10_captures_5 : decode cX10_captures 5 = .ok (.iaload, 1) := by decide +kernel
theorem dX10_captures_6 : decode cX10_captures 6 = .ok (.ifCond .ne 20, 3) := by decide +kernel
theorem dX10_captures_9 : decode cX10_captures 9 = .ok (.aload_n 0, 1) := by decide +kernel
theorem dX10_captures_10 : decode cX10_captures 10 = .ok (.aload_n 0, 1) := by decide +kernel
theorem dX10_captures_11 : decode cX10_captures 11 = .ok (.getfield 30, 3) := by decide +kernel
theorem dX10_captures_14 : decode cX10_captures 14 = .ok (.iload_n 1, 1) := by decide +kernel
theorem dX10_captures_15 : decode cX10_captures 15 = .ok (.iaload, 1) := by decide +kernel
theorem dX10_captures_16 : decode cX10_captures 16 = .ok (.invokevirtual 172, 3) := by decide +kernel
theorem dX10_captures_19 : decode cX10_captures 19 = .ok (.ifCond .ne 7, 3) := by decide +kernel
theorem dX10_captures_22 : decode cX10_captures 22 = .ok (.iconst 1, 1) := by decide +kernel
theorem dX10_captures_23 : decode cX10_captures 23 = .ok (.goto 4, 3) := by decide +kernel
theorem dX10_captures_26 : decode cX10_captures 26 = .ok (.iconst 0, 1) := by decide +kernel
theorem dX10_captures_27 : decode cX10_captures 27 = .ok (.ireturn, 1) := by decide +kernel
theorem dX10_promotes_0 : decode cX10_promotes 0 = .ok (.aload_n 0, 1) := by decide +kernel
theorem dX10_promotes_1 : decode cX10_promotes 1 = .ok (.getfield 24, 3) := by decide +kernel
theorem dX10_promotes_4 : decode cX10_promotes 4 = .ok (.iload_n 1, 1) := by decide +kernel
theorem dX10_promotes_5 : decode cX10_promotes 5 = .ok (.iaload, 1) := by decide +kernel
theorem dX10_promotes_6 : decode cX10_promotes 6 = .ok (.ifCond .ne 39, 3) := by decide +kernel
theorem dX10_promotes_9 : decode cX10_promotes 9 = .ok (.aload_n 0, 1) := by decide +kernel
theorem dX10_promotes_10 : decode cX10_promotes 10 = .ok (.aload_n 0, 1) := by decide +kernel
theorem dX10_promotes_11 : decode cX10_promotes 11 = .ok (.getfield 33, 3) := by decide +kernel
theorem dX10_promotes_14 : decode cX10_promotes 14 = .ok (.iload_n 1, 1) := by decide +kernel
theorem dX10_promotes_15 : decode cX10_promotes 15 = .ok (.iaload, 1) := by decide +kernel
theorem dX10_promotes_16 : decode cX10_promotes 16 = .ok (.invokevirtual 193, 3) := by decide +kernel
theorem dX10_promotes_19 : decode cX10_promotes 19 = .ok (.ifCond .lt 26, 3) := by decide +kernel
theorem dX10_promotes_22 : decode cX10_promotes 22 = .ok (.aload_n 0, 1) := by decide +kernel
theorem dX10_promotes_23 : decode cX10_promotes 23 = .ok (.aload_n 0, 1) := by decide +kernel
theorem dX10_promotes_24 : decode cX10_promotes 24 = .ok (.getfield 30, 3) := by decide +kernel
theorem dX10_promotes_27 : decode cX10_promotes 27 = .ok (.iload_n 1, 1) := by decide +kernel
theorem dX10_promotes_28 : decode cX10_promotes 28 = .ok (.iaload, 1) := by decide +kernel
theorem dX10_promotes_29 : decode cX10_promotes 29 = .ok (.aload_n 0, 1) := by decide +kernel
theorem dX10_promotes_30 : decode cX10_promotes 30 = .ok (.getfield 11, 3) := by decide +kernel
theorem dX10_promotes_33 : decode cX10_promotes 33 = .ok (.iconst 0, 1) := by decide +kernel
theorem dX10_promotes_34 : decode cX10_promotes 34 = .ok (.iaload, 1) := by decide +kernel
theorem dX10_promotes_35 : decode cX10_promotes 35 = .ok (.invokevirtual 196, 3) := by decide +kernel
theorem dX10_promotes_38 : decode cX10_promotes 38 = .ok (.ifCond .eq 7, 3) := by decide +kernel
theorem dX10_promotes_41 : decode cX10_promotes 41 = .ok (.iconst 1, 1) := by decide +kernel
theorem dX10_promotes_42 : decode cX10_promotes 42 = .ok (.goto 4, 3) := by decide +kernel
theorem dX10_promotes_45 : decode cX10_promotes 45 = .ok (.iconst 0, 1) := by decide +kernel
theorem dX10_promotes_46 : decode cX10_promotes 46 = .ok (.ireturn, 1) := by decide +kernel
theorem dX10_moves_0 : decode cX10_moves 0 = .ok (.iload_n 1, 1) := by decide +kernel
theorem dX10_moves_1 : decode cX10_moves 1 = .ok (.iconst 0, 1) := by decide +kernel
theorem dX10_moves_2 : decode cX10_moves 2 = .ok (.iconst 5, 1) := by decide +kernel
theorem dX10_moves_3 : decode cX10_moves 3 = .ok (.invokestatic 61, 3) := by decide +kernel
theorem dX10_moves_6 : decode cX10_moves 6 = .ok (.ifCond .ne 5, 3) := by decide +kernel
theorem dX10_moves_9 : decode cX10_moves 9 = .ok (.iconst (-1), 1) := by decide +kernel
theorem dX10_moves_10 : decode cX10_moves 10 = .ok (.ireturn, 1) := by decide +kernel
theorem dX10_moves_11 : decode cX10_moves 11 = .ok (.aload_n 0, 1) := by decide +kernel
theorem dX10_moves_12 : decode cX10_moves 12 = .ok (.invokevirtual 239, 3) := by decide +kernel
theorem dX10_moves_15 : decode cX10_moves 15 = .ok (.iload_n 1, 1) := by decide +kernel
theorem dX10_moves_16 : decode cX10_moves 16 = .ok (.iconst 3, 1) := by decide +kernel
theorem dX10_moves_17 : decode cX10_moves 17 = .ok (.if_icmp .ne 10, 3) := by decide +kernel
theorem dX10_moves_20 : decode cX10_moves 20 = .ok (.aload_n 0, 1) := by decide +kernel
theorem dX10_moves_21 : decode cX10_moves 21 = .ok (.getfield 36, 3) := by decide +kernel
theorem dX10_moves_24 : decode cX10_moves 24 = .ok (.iconst 0, 1) := by decide +kernel
theorem dX10_moves_25 : decode cX10_moves 25 = .ok (.iaload, 1) := by decide +kernel
theorem dX10_moves_26 : decode cX10_moves 26 = .ok (.ireturn, 1) := by decide +kernel
theorem dX10_moves_27 : decode cX10_moves 27 = .ok (.iconst 0, 1) := by decide +kernel
theorem dX10_moves_28 : decode cX10_moves 28 = .ok (.istore_n 2, 1) := by decide +kernel
theorem dX10_moves_29 : decode cX10_moves 29 = .ok (.iconst 0, 1) := by decide +kernel
theorem dX10_moves_30 : decode cX10_moves 30 = .ok (.istore_n 3, 1) := by decide +kernel
theorem dX10_moves_31 : decode cX10_moves 31 = .ok (.iload_n 3, 1) := by decide +kernel
theorem dX10_moves_32 : decode cX10_moves 32 = .ok (.aload_n 0, 1) := by decide +kernel
theorem dX10_moves_33 : decode cX10_moves 33 = .ok (.getfield 36, 3) := by decide +kernel
theorem dX10_moves_36 : decode cX10_moves 36 = .ok (.iconst 0, 1) := by decide +kernel
theorem dX10_moves_37 : decode cX10_moves 37 = .ok (.iaload, 1) := by decide +kernel
theorem dX10_moves_38 : decode cX10_moves 38 = .ok (.if_icmp .ge 54, 3) := by decide +kernel
theorem dX10_moves_41 : decode cX10_moves 41 = .ok (.iload_n 1, 1) := by decide +kernel
theorem dX10_moves_42 : decode cX10_moves 42 = .ok (.iconst 3, 1) := by decide +kernel
theorem dX10_moves_43 : decode cX10_moves 43 = .ok (.if_icmp .ge 16, 3) := by decide +kernel
theorem dX10_moves_46 : decode cX10_moves 46 = .ok (.aload_n 0, 1) := by decide +kernel
theorem dX10_moves_47 : decode cX10_moves 47 = .ok (.getfield 24, 3) := by decide +kernel
theorem dX10_moves_50 : decode cX10_moves 50 = .ok (.iload_n 3, 1) := by decide +kernel
theorem dX10_moves_51 : decode cX10_moves 51 = .ok (.iaload, 1) := by decide +kernel
theorem dX10_moves_52 : decode cX10_moves 52 = .ok (.iload_n 1, 1) := by decide +kernel
theorem dX10_moves_53 : decode cX10_moves 53 = .ok (.if_icmp .ne 33, 3) := by decide +kernel
theorem dX10_moves_56 : decode cX10_moves 56 = .ok (.goto 27, 3) := by decide +kernel
theorem dX10_moves_59 : decode cX10_moves 59 = .ok (.iload_n 1, 1) := by decide +kernel
theorem dX10_moves_60 : decode cX10_moves 60 = .ok (.iconst 4, 1) := by decide +kernel
theorem dX10_moves_61 : decode cX10_moves 61 = .ok (.if_icmp .ne 14, 3) := by decide +kernel
theorem dX10_moves_64 : decode cX10_moves 64 = .ok (.aload_n 0, 1) := by decide +kernel
theorem dX10_moves_65 : decode cX10_moves 65 = .ok (.iload_n 3, 1) := by decide +kernel
theorem dX10_moves_66 : decode cX10_moves 66 = .ok (.invokevirtual 242, 3) := by decide +kernel
theorem dX10_moves_69 : decode cX10_moves 69 = .ok (.ifCond .eq 17, 3) := by decide +kernel
theorem dX10_moves_72 : decode cX10_moves 72 = .ok (.goto 11, 3) := by decide +kernel
theorem dX10_moves_75 : decode cX10_moves 75 = .ok (.aload_n 0, 1) := by decide +kernel
theorem dX10_moves_76 : decode cX10_moves 76 = .ok (.iload_n 3, 1) := by decide +kernel
theorem dX10_moves_77 : decode cX10_moves 77 = .ok (.invokevirtual 245, 3) := by decide +kernel
theorem dX10_moves_80 : decode cX10_moves 80 = .ok (.ifCond .eq 6, 3) := by decide +kernel
theorem dX10_moves_83 : decode cX10_moves 83 = .ok (.iinc 2 1, 3) := by decide +kernel
theorem dX10_moves_86 : decode cX10_moves 86 = .ok (.iinc 3 1, 3) := by decide +kernel
theorem dX10_moves_89 : decode cX10_moves 89 = .ok (.goto (-58), 3) := by decide +kernel
theorem dX10_moves_92 : decode cX10_moves 92 = .ok (.iload_n 2, 1) := by decide +kernel
theorem dX10_moves_93 : decode cX10_moves 93 = .ok (.ireturn, 1) := by decide +kernel
theorem dX10_ahead_0 : decode cX10_ahead 0 = .ok (.aload_n 0, 1) := by decide +kernel
theorem dX10_ahead_1 : decode cX10_ahead 1 = .ok (.iconst 0, 1) := by decide +kernel
theorem dX10_ahead_2 : decode cX10_ahead 2 = .ok (.invokevirtual 210, 3) := by decide +kernel
theorem dX10_ahead_5 : decode cX10_ahead 5 = .ok (.aload_n 0, 1) := by decide +kernel
theorem dX10_ahead_6 : decode cX10_ahead 6 = .ok (.aload_n 0, 1) := by decide +kernel
theorem dX10_ahead_7 : decode cX10_ahead 7 = .ok (.getfield 24, 3) := by decide +kernel
theorem dX10_ahead_10 : decode cX10_ahead 10 = .ok (.iload_n 1, 1) := by decide +kernel
theorem dX10_ahead_11 : decode cX10_ahead 11 = .ok (.iaload, 1) := by decide +kernel
theorem dX10_ahead_12 : decode cX10_ahead 12 = .ok (.aload_n 0, 1) := by decide +kernel
theorem dX10_ahead_13 : decode cX10_ahead 13 = .ok (.getfield 27, 3) := by decide +kernel
theorem dX10_ahead_16 : decode cX10_ahead 16 = .ok (.iload_n 1, 1) := by decide +kernel
theorem dX10_ahead_17 : decode cX10_ahead 17 = .ok (.iaload, 1) := by decide +kernel
theorem dX10_ahead_18 : decode cX10_ahead 18 = .ok (.aload_n 0, 1) := by decide +kernel
theorem dX10_ahead_19 : decode cX10_ahead 19 = .ok (.getfield 30, 3) := by decide +kernel
theorem dX10_ahead_22 : decode cX10_ahead 22 = .ok (.iload_n 1, 1) := by decide +kernel
theorem dX10_ahead_23 : decode cX10_ahead 23 = .ok (.iaload, 1) := by decide +kernel
theorem dX10_ahead_24 : decode cX10_ahead 24 = .ok (.aload_n 0, 1) := by decide +kernel
theorem dX10_ahead_25 : decode cX10_ahead 25 = .ok (.getfield 33, 3) := by decide +kernel
theorem dX10_ahead_28 : decode cX10_ahead 28 = .ok (.iload_n 1, 1) := by decide +kernel
theorem dX10_ahead_29 : decode cX10_ahead 29 = .ok (.iaload, 1) := by decide +kernel
theorem dX10_ahead_30 : decode cX10_ahead 30 = .ok (.invokevirtual 213, 3) := by decide +kernel
theorem dX10_ahead_33 : decode cX10_ahead 33 = .ok (.iload_n 2, 1) := by decide +kernel
theorem dX10_ahead_34 : decode cX10_ahead 34 = .ok (.ifCond .eq 10, 3) := by decide +kernel
theorem dX10_ahead_37 : decode cX10_ahead 37 = .ok (.aload_n 0, 1) := by decide +kernel
theorem dX10_ahead_38 : decode cX10_ahead 38 = .ok (.invokevirtual 82, 3) := by decide +kernel
theorem dX10_ahead_41 : decode cX10_ahead 41 = .ok (.goto 21, 3) := by decide +kernel
theorem dX10_ahead_44 : decode cX10_ahead 44 = .ok (.aload_n 0, 1) := by decide +kernel
theorem dX10_ahead_45 : decode cX10_ahead 45 = .ok (.aload_n 0, 1) := by decide +kernel
theorem dX10_ahead_46 : decode cX10_ahead 46 = .ok (.getfield 11, 3) := by decide +kernel
theorem dX10_ahead_49 : decode cX10_ahead 49 = .ok (.iconst 0, 1) := by decide +kernel
theorem dX10_ahead_50 : decode cX10_ahead 50 = .ok (.iaload, 1) := by decide +kernel
theorem dX10_ahead_51 : decode cX10_ahead 51 = .ok (.invokevirtual 216, 3) := by decide +kernel
theorem dX10_ahead_54 : decode cX10_ahead 54 = .ok (.ifCond .eq 7, 3) := by decide +kernel
theorem dX10_ahead_57 : decode cX10_ahead 57 = .ok (.iconst 0, 1) := by decide +kernel
theorem dX10_ahead_58 : decode cX10_ahead 58 = .ok (.goto 4, 3) := by decide +kernel
theorem dX10_ahead_61 : decode cX10_ahead 61 = .ok (.iconst 1, 1) := by decide +kernel
theorem dX10_ahead_62 : decode cX10_ahead 62 = .ok (.istore_n 3, 1) := by decide +kernel
theorem dX10_ahead_63 : decode cX10_ahead 63 = .ok (.aload_n 0, 1) := by decide +kernel
theorem dX10_ahead_64 : decode cX10_ahead 64 = .ok (.iconst 0, 1) := by decide +kernel
theorem dX10_ahead_65 : decode cX10_ahead 65 = .ok (.invokevirtual 219, 3) := by decide +kernel
theorem dX10_ahead_68 : decode cX10_ahead 68 = .ok (.iload_n 3, 1) := by decide +kernel
theorem dX10_ahead_69 : decode cX10_ahead 69 = .ok (.ireturn, 1) := by decide +kernel
theorem dX10_typeOf_0 : decode cX10_typeOf 0 = .ok (.aload_n 0, 1) := by decide +kernel
theorem dX10_typeOf_1 : decode cX10_typeOf 1 = .ok (.getfield 24, 3) := by decide +kernel
theorem dX10_typeOf_4 : decode cX10_typeOf 4 = .ok (.iload_n 1, 1) := by decide +kernel
theorem dX10_typeOf_5 : decode cX10_typeOf 5 = .ok (.iaload, 1) := by decide +kernel
theorem dX10_typeOf_6 : decode cX10_typeOf 6 = .ok (.iconst 1, 1) := by decide +kernel
theorem dX10_typeOf_7 : decode cX10_typeOf 7 = .ok (.if_icmp .ne 19, 3) := by decide +kernel
theorem dX10_typeOf_10 : decode cX10_typeOf 10 = .ok (.aload_n 0, 1) := by decide +kernel
theorem dX10_typeOf_11 : decode cX10_typeOf 11 = .ok (.aload_n 0, 1) := by decide +kernel
theorem dX10_typeOf_12 : decode cX10_typeOf 12 = .ok (.getfield 27, 3) := by decide +kernel
theorem dX10_typeOf_15 : decode cX10_typeOf 15 = .ok (.iload_n 1, 1) := by decide +kernel
theorem dX10_typeOf_16 : decode cX10_typeOf 16 = .ok (.iaload, 1) := by decide +kernel
theorem dX10_typeOf_17 : decode cX10_typeOf 17 = .ok (.invokevirtual 69, 3) := by decide +kernel
theorem dX10_typeOf_20 : decode cX10_typeOf 20 = .ok (.bipush 6, 2) := by decide +kernel
theorem dX10_typeOf_22 : decode cX10_typeOf 22 = .ok (.irem, 1) := by decide +kernel
theorem dX10_typeOf_23 : decode cX10_typeOf 23 = .ok (.goto 9, 3) := by decide +kernel
theorem dX10_typeOf_26 : decode cX10_typeOf 26 = .ok (.aload_n 0, 1) := by decide +kernel
theorem dX10_typeOf_27 : decode cX10_typeOf 27 = .ok (.getfield 33, 3) := by decide +kernel
theorem dX10_typeOf_30 : decode cX10_typeOf 30 = .ok (.iload_n 1, 1) := by decide +kernel
theorem dX10_typeOf_31 : decode cX10_typeOf 31 = .ok (.iaload, 1) := by decide +kernel
theorem dX10_typeOf_32 : decode cX10_typeOf 32 = .ok (.ireturn, 1) := by decide +kernel
theorem dX10_move_0 : decode cX10_move 0 = .ok (.aload_n 0, 1) := by decide +kernel
theorem dX10_move_1 : decode cX10_move 1 = .ok (.invokevirtual 239, 3) := by decide +kernel
theorem dX10_move_4 : decode cX10_move 4 = .ok (.iload_n 1, 1) := by decide +kernel
theorem dX10_move_5 : decode cX10_move 5 = .ok (.iconst 0, 1) := by decide +kernel
theorem dX10_move_6 : decode cX10_move 6 = .ok (.aload_n 0, 1) := by decide +kernel
theorem dX10_move_7 : decode cX10_move 7 = .ok (.getfield 36, 3) := by decide +kernel
theorem dX10_move_10 : decode cX10_move 10 = .ok (.iconst 0, 1) := by decide +kernel
theorem dX10_move_11 : decode cX10_move 11 = .ok (.iaload, 1) := by decide +kernel
theorem dX10_move_12 : decode cX10_move 12 = .ok (.iconst 1, 1) := by decide +kernel
theorem dX10_move_13 : decode cX10_move 13 = .ok (.isub, 1) := by decide +kernel
theorem dX10_move_14 : decode cX10_move 14 = .ok (.invokestatic 61, 3) := by decide +kernel
theorem dX10_move_17 : decode cX10_move 17 = .ok (.ifCond .eq 13, 3) := by decide +kernel
theorem dX10_move_20 : decode cX10_move 20 = .ok (.iload_n 2, 1) := by decide +kernel
theorem dX10_move_21 : decode cX10_move 21 = .ok (.iconst 0, 1) := by decide +kernel
theorem dX10_move_22 : decode cX10_move 22 = .ok (.bipush 7, 2) := by decide +kernel
theorem dX10_move_24 : decode cX10_move 24 = .ok (.invokestatic 61, 3) := by decide +kernel
theorem dX10_move_27 : decode cX10_move 27 = .ok (.ifCond .ne 5, 3) := by decide +kernel
theorem dX10_move_30 : decode cX10_move 30 = .ok (.iconst (-1), 1) := by decide +kernel
theorem dX10_move_31 : decode cX10_move 31 = .ok (.ireturn, 1) := by decide +kernel
theorem dX10_move_32 : decode cX10_move 32 = .ok (.iload_n 2, 1) := by decide +kernel
theorem dX10_move_33 : decode cX10_move 33 = .ok (.tableswitch 120 0 5 #[39, 46, 53, 60, 66, 93], 39) := by decide +kernel
theorem dX10_move_72 : decode cX10_move 72 = .ok (.aload_n 0, 1) := by decide +kernel
theorem dX10_move_73 : decode cX10_move 73 = .ok (.getfield 24, 3) := by decide +kernel
theorem dX10_move_76 : decode cX10_move 76 = .ok (.iload_n 1, 1) := by decide +kernel
theorem dX10_move_77 : decode cX10_move 77 = .ok (.iaload, 1) := by decide +kernel
theorem dX10_move_78 : decode cX10_move 78 = .ok (.ireturn, 1) := by decide +kernel
theorem dX10_move_79 : decode cX10_move 79 = .ok (.aload_n 0, 1) := by decide +kernel
theorem dX10_move_80 : decode cX10_move 80 = .ok (.getfield 27, 3) := by decide +kernel
theorem dX10_move_83 : decode cX10_move 83 = .ok (.iload_n 1, 1) := by decide +kernel
theorem dX10_move_84 : decode cX10_move 84 = .ok (.iaload, 1) := by decide +kernel
theorem dX10_move_85 : decode cX10_move 85 = .ok (.ireturn, 1) := by decide +kernel
theorem dX10_move_86 : decode cX10_move 86 = .ok (.aload_n 0, 1) := by decide +kernel
theorem dX10_move_87 : decode cX10_move 87 = .ok (.getfield 30, 3) := by decide +kernel
theorem dX10_move_90 : decode cX10_move 90 = .ok (.iload_n 1, 1) := by decide +kernel
theorem dX10_move_91 : decode cX10_move 91 = .ok (.iaload, 1) := by decide +kernel
theorem dX10_move_92 : decode cX10_move 92 = .ok (.ireturn, 1) := by decide +kernel
theorem dX10_move_93 : decode cX10_move 93 = .ok (.aload_n 0, 1) := by decide +kernel
theorem dX10_move_94 : decode cX10_move 94 = .ok (.iload_n 1, 1) := by decide +kernel
theorem dX10_move_95 : decode cX10_move 95 = .ok (.invokevirtual 248, 3) := by decide +kernel
theorem dX10_move_98 : decode cX10_move 98 = .ok (.ireturn, 1) := by decide +kernel
theorem dX10_move_99 : decode cX10_move 99 = .ok (.aload_n 0, 1) := by decide +kernel
theorem dX10_move_100 : decode cX10_move 100 = .ok (.iload_n 1, 1) := by decide +kernel
theorem dX10_move_101 : decode cX10_move 101 = .ok (.invokevirtual 242, 3) := by decide +kernel
theorem dX10_move_104 : decode cX10_move 104 = .ok (.ifCond .eq 19, 3) := by decide +kernel
theorem dX10_move_107 : decode cX10_move 107 = .ok (.aload_n 0, 1) := by decide +kernel
theorem dX10_move_108 : decode cX10_move 108 = .ok (.aload_n 0, 1) := by decide +kernel
theorem dX10_move_109 : decode cX10_move 109 = .ok (.getfield 30, 3) := by decide +kernel
theorem dX10_move_112 : decode cX10_move 112 = .ok (.iload_n 1, 1) := by decide +kernel
theorem dX10_move_113 : decode cX10_move 113 = .ok (.iaload, 1) := by decide +kernel
theorem dX10_move_114 : decode cX10_move 114 = .ok (.invokevirtual 69, 3) := by decide +kernel
theorem dX10_move_117 : decode cX10_move 117 = .ok (.bipush 6, 2) := by decide +kernel
theorem dX10_move_119 : decode cX10_move 119 = .ok (.irem, 1) := by decide +kernel
theorem dX10_move_120 : decode cX10_move 120 = .ok (.goto 5, 3) := by decide +kernel
theorem dX10_move_123 : decode cX10_move 123 = .ok (.bipush (-5), 2) := by decide +kernel
theorem dX10_move_125 : decode cX10_move 125 = .ok (.ireturn, 1) := by decide +kernel
theorem dX10_move_126 : decode cX10_move 126 = .ok (.aload_n 0, 1) := by decide +kernel
theorem dX10_move_127 : decode cX10_move 127 = .ok (.iload_n 1, 1) := by decide +kernel
theorem dX10_move_128 : decode cX10_move 128 = .ok (.invokevirtual 245, 3) := by decide +kernel
theorem dX10_move_131 : decode cX10_move 131 = .ok (.ifCond .eq 16, 3) := by decide +kernel
theorem dX10_move_134 : decode cX10_move 134 = .ok (.aload_n 0, 1) := by decide +kernel
theorem dX10_move_135 : decode cX10_move 135 = .ok (.aload_n 0, 1) := by decide +kernel
theorem dX10_move_136 : decode cX10_move 136 = .ok (.getfield 33, 3) := by decide +kernel
theorem dX10_move_139 : decode cX10_move 139 = .ok (.iload_n 1, 1) := by decide +kernel
theorem dX10_move_140 : decode cX10_move 140 = .ok (.iaload, 1) := by decide +kernel
theorem dX10_move_141 : decode cX10_move 141 = .ok (.invokevirtual 193, 3) := by decide +kernel
theorem dX10_move_144 : decode cX10_move 144 = .ok (.goto 8, 3) := by decide +kernel
theorem dX10_move_147 : decode cX10_move 147 = .ok (.aload_n 0, 1) := by decide +kernel
theorem dX10_move_148 : decode cX10_move 148 = .ok (.iload_n 1, 1) := by decide +kernel
theorem dX10_move_149 : decode cX10_move 149 = .ok (.invokevirtual 248, 3) := by decide +kernel
theorem dX10_move_152 : decode cX10_move 152 = .ok (.ireturn, 1) := by decide +kernel
theorem dX10_move_153 : decode cX10_move 153 = .ok (.aload_n 0, 1) := by decide +kernel
theorem dX10_move_154 : decode cX10_move 154 = .ok (.iload_n 1, 1) := by decide +kernel
theorem dX10_move_155 : decode cX10_move 155 = .ok (.iload_n 2, 1) := by decide +kernel
theorem dX10_move_156 : decode cX10_move 156 = .ok (.bipush 7, 2) := by decide +kernel
theorem dX10_move_158 : decode cX10_move 158 = .ok (.if_icmp .ne 7, 3) := by decide +kernel
theorem dX10_move_161 : decode cX10_move 161 = .ok (.iconst 1, 1) := by decide +kernel
theorem dX10_move_162 : decode cX10_move 162 = .ok (.goto 4, 3) := by decide +kernel
theorem dX10_move_165 : decode cX10_move 165 = .ok (.iconst 0, 1) := by decide +kernel
theorem dX10_move_166 : decode cX10_move 166 = .ok (.invokevirtual 251, 3) := by decide +kernel
theorem dX10_move_169 : decode cX10_move 169 = .ok (.ireturn, 1) := by decide +kernel
theorem dX10_proof_0 : decode cX10_proof 0 = .ok (.aload_n 0, 1) := by decide +kernel
theorem dX10_proof_1 : decode cX10_proof 1 = .ok (.iload_n 1, 1) := by decide +kernel
theorem dX10_proof_2 : decode cX10_proof 2 = .ok (.invokevirtual 149, 3) := by decide +kernel
theorem dX10_proof_5 : decode cX10_proof 5 = .ok (.ifCond .eq 11, 3) := by decide +kernel
theorem dX10_proof_8 : decode cX10_proof 8 = .ok (.aload_n 0, 1) := by decide +kernel
theorem dX10_proof_9 : decode cX10_proof 9 = .ok (.iload_n 2, 1) := by decide +kernel
theorem dX10_proof_10 : decode cX10_proof 10 = .ok (.invokevirtual 149, 3) := by decide +kernel
theorem dX10_proof_13 : decode cX10_proof 13 = .ok (.ifCond .ne 5, 3) := by decide +kernel
theorem dX10_proof_16 : decode cX10_proof 16 = .ok (.iconst (-1), 1) := by decide +kernel
theorem dX10_proof_17 : decode cX10_proof 17 = .ok (.ireturn, 1) := by decide +kernel
theorem dX10_proof_18 : decode cX10_proof 18 = .ok (.aload_n 0, 1) := by decide +kernel
theorem dX10_proof_19 : decode cX10_proof 19 = .ok (.getfield 11, 3) := by decide +kernel
theorem dX10_proof_22 : decode cX10_proof 22 = .ok (.iconst 0, 1) := by decide +kernel
theorem dX10_proof_23 : decode cX10_proof 23 = .ok (.iaload, 1) := by decide +kernel
theorem dX10_proof_24 : decode cX10_proof 24 = .ok (.istore_n 3, 1) := by decide +kernel
theorem dX10_proof_25 : decode cX10_proof 25 = .ok (.aload_n 0, 1) := by decide +kernel
theorem dX10_proof_26 : decode cX10_proof 26 = .ok (.iload_n 1, 1) := by decide +kernel
theorem dX10_proof_27 : decode cX10_proof 27 = .ok (.iload_n 3, 1) := by decide +kernel
theorem dX10_proof_28 : decode cX10_proof 28 = .ok (.invokevirtual 175, 3) := by decide +kernel
theorem dX10_proof_31 : decode cX10_proof 31 = .ok (.ifCond .ne 6, 3) := by decide +kernel
theorem dX10_proof_34 : decode cX10_proof 34 = .ok (.bipush (-6), 2) := by decide +kernel
theorem dX10_proof_36 : decode cX10_proof 36 = .ok (.ireturn, 1) := by decide +kernel
theorem dX10_proof_37 : decode cX10_proof 37 = .ok (.aload_n 0, 1) := by decide +kernel
theorem dX10_proof_38 : decode cX10_proof 38 = .ok (.iload_n 1, 1) := by decide +kernel
theorem dX10_proof_39 : decode cX10_proof 39 = .ok (.invokevirtual 69, 3) := by decide +kernel
theorem dX10_proof_42 : decode cX10_proof 42 = .ok (.bipush 6, 2) := by decide +kernel
theorem dX10_proof_44 : decode cX10_proof 44 = .ok (.irem, 1) := by decide +kernel
theorem dX10_proof_45 : decode cX10_proof 45 = .ok (.istore 4, 2) := by decide +kernel
theorem dX10_proof_47 : decode cX10_proof 47 = .ok (.aload_n 0, 1) := by decide +kernel
theorem dX10_proof_48 : decode cX10_proof 48 = .ok (.iload 4, 2) := by decide +kernel
theorem dX10_proof_50 : decode cX10_proof 50 = .ok (.iload_n 1, 1) := by decide +kernel
theorem dX10_proof_51 : decode cX10_proof 51 = .ok (.iload_n 3, 1) := by decide +kernel
theorem dX10_proof_52 : decode cX10_proof 52 = .ok (.iconst 0, 1) := by decide +kernel
theorem dX10_proof_53 : decode cX10_proof 53 = .ok (.invokevirtual 183, 3) := by decide +kernel
theorem dX10_proof_56 : decode cX10_proof 56 = .ok (.iload_n 2, 1) := by decide +kernel
theorem dX10_proof_57 : decode cX10_proof 57 = .ok (.invokestatic 225, 3) := by decide +kernel
theorem dX10_proof_60 : decode cX10_proof 60 = .ok (.ifCond .ne 6, 3) := by decide +kernel
theorem dX10_proof_63 : decode cX10_proof 63 = .ok (.bipush (-7), 2) := by decide +kernel
theorem dX10_proof_65 : decode cX10_proof 65 = .ok (.ireturn, 1) := by decide +kernel
theorem dX10_proof_66 : decode cX10_proof 66 = .ok (.aload_n 0, 1) := by decide +kernel
theorem dX10_proof_67 : decode cX10_proof 67 = .ok (.iconst 0, 1) := by decide +kernel
theorem dX10_proof_68 : decode cX10_proof 68 = .ok (.invokevirtual 210, 3) := by decide +kernel
theorem dX10_proof_71 : decode cX10_proof 71 = .ok (.aload_n 0, 1) := by decide +kernel
theorem dX10_proof_72 : decode cX10_proof 72 = .ok (.iconst 0, 1) := by decide +kernel
theorem dX10_proof_73 : decode cX10_proof 73 = .ok (.iload_n 1, 1) := by decide +kernel
theorem dX10_proof_74 : decode cX10_proof 74 = .ok (.iload_n 2, 1) := by decide +kernel
theorem dX10_proof_75 : decode cX10_proof 75 = .ok (.iload 4, 2) := by decide +kernel
theorem dX10_proof_77 : decode cX10_proof 77 = .ok (.invokevirtual 213, 3) := by decide +kernel
theorem dX10_proof_80 : decode cX10_proof 80 = .ok (.bipush (-5), 2) := by decide +kernel
theorem dX10_proof_82 : decode cX10_proof 82 = .ok (.istore 5, 2) := by decide +kernel
theorem dX10_proof_84 : decode cX10_proof 84 = .ok (.aload_n 0, 1) := by decide +kernel
theorem dX10_proof_85 : decode cX10_proof 85 = .ok (.iload_n 3, 1) := by decide +kernel
theorem dX10_proof_86 : decode cX10_proof 86 = .ok (.invokevirtual 216, 3) := by decide +kernel
theorem dX10_proof_89 : decode cX10_proof 89 = .ok (.ifCond .ne 72, 3) := by decide +kernel
theorem dX10_proof_92 : decode cX10_proof 92 = .ok (.aload_n 0, 1) := by decide +kernel
theorem dX10_proof_93 : decode cX10_proof 93 = .ok (.iload_n 3, 1) := by decide +kernel
theorem dX10_proof_94 : decode cX10_proof 94 = .ok (.invokevirtual 186, 3) := by decide +kernel
theorem dX10_proof_97 : decode cX10_proof 97 = .ok (.lstore 6, 2) := by decide +kernel
theorem dX10_proof_99 : decode cX10_proof 99 = .ok (.aload_n 0, 1) := by decide +kernel
theorem dX10_proof_100 : decode cX10_proof 100 = .ok (.invokevirtual 65, 3) := by decide +kernel
theorem dX10_proof_103 : decode cX10_proof 103 = .ok (.iconst 1, 1) := by decide +kernel
theorem dX10_proof_104 : decode cX10_proof 104 = .ok (.isub, 1) := by decide +kernel
theorem dX10_proof_105 : decode cX10_proof 105 = .ok (.istore 8, 2) := by decide +kernel
theorem dX10_proof_107 : decode cX10_proof 107 = .ok (.iload 8, 2) := by decide +kernel
theorem dX10_proof_109 : decode cX10_proof 109 = .ok (.ifCond .lt 52, 3) := by decide +kernel
theorem dX10_proof_112 : decode cX10_proof 112 = .ok (.aload_n 0, 1) := by decide +kernel
theorem dX10_proof_113 : decode cX10_proof 113 = .ok (.iload 8, 2) := by decide +kernel
theorem dX10_proof_115 : decode cX10_proof 115 = .ok (.iconst 1, 1) := by decide +kernel
theorem dX10_proof_116 : decode cX10_proof 116 = .ok (.iload_n 3, 1) := by decide +kernel
theorem dX10_proof_117 : decode cX10_proof 117 = .ok (.isub, 1) := by decide +kernel
theorem dX10_proof_118 : decode cX10_proof 118 = .ok (.invokevirtual 175, 3) := by decide +kernel
theorem dX10_proof_121 : decode cX10_proof 121 = .ok (.ifCond .eq 34, 3) := by decide +kernel
theorem dX10_proof_124 : decode cX10_proof 124 = .ok (.aload_n 0, 1) := by decide +kernel
theorem dX10_proof_125 : decode cX10_proof 125 = .ok (.aload_n 0, 1) := by decide +kernel
theorem dX10_proof_126 : decode cX10_proof 126 = .ok (.iload 8, 2) := by decide +kernel
theorem dX10_proof_128 : decode cX10_proof 128 = .ok (.invokevirtual 69, 3) := by decide +kernel
theorem dX10_proof_131 : decode cX10_proof 131 = .ok (.bipush 6, 2) := by decide +kernel
theorem dX10_proof_133 : decode cX10_proof 133 = .ok (.irem, 1) := by decide +kernel
theorem dX10_proof_134 : decode cX10_proof 134 = .ok (.iload 8, 2) := by decide +kernel
theorem dX10_proof_136 : decode cX10_proof 136 = .ok (.iconst 1, 1) := by decide +kernel
theorem dX10_proof_137 : decode cX10_proof 137 = .ok (.iload_n 3, 1) := by decide +kernel
theorem dX10_proof_138 : decode cX10_proof 138 = .ok (.isub, 1) := by decide +kernel
theorem dX10_proof_139 : decode cX10_proof 139 = .ok (.iconst 1, 1) := by decide +kernel
theorem dX10_proof_140 : decode cX10_proof 140 = .ok (.invokevirtual 183, 3) := by decide +kernel
theorem dX10_proof_143 : decode cX10_proof 143 = .ok (.lload 6, 2) := by decide +kernel
theorem dX10_proof_145 : decode cX10_proof 145 = .ok (.land, 1) := by decide +kernel
theorem dX10_proof_146 : decode cX10_proof 146 = .ok (.lconst 0, 1) := by decide +kernel
theorem dX10_proof_147 : decode cX10_proof 147 = .ok (.lcmp, 1) := by decide +kernel
theorem dX10_proof_148 : decode cX10_proof 148 = .ok (.ifCond .eq 7, 3) := by decide +kernel
theorem dX10_proof_151 : decode cX10_proof 151 = .ok (.iload 8, 2) := by decide +kernel
theorem dX10_proof_153 : decode cX10_proof 153 = .ok (.istore 5, 2) := by decide +kernel
theorem dX10_proof_155 : decode cX10_proof 155 = .ok (.iinc 8 (-1), 3) := by decide +kernel
theorem dX10_proof_158 : decode cX10_proof 158 = .ok (.goto (-51), 3) := by decide +kernel
theorem dX10_proof_161 : decode cX10_proof 161 = .ok (.aload_n 0, 1) := by decide +kernel
theorem dX10_proof_162 : decode cX10_proof 162 = .ok (.iconst 0, 1) := by decide +kernel
theorem dX10_proof_163 : decode cX10_proof 163 = .ok (.invokevirtual 219, 3) := by decide +kernel
theorem dX10_proof_166 : decode cX10_proof 166 = .ok (.iload 5, 2) := by decide +kernel
theorem dX10_proof_168 : decode cX10_proof 168 = .ok (.ireturn, 1) := by decide +kernel
theorem dX10_occurrences_0 : decode cX10_occurrences 0 = .ok (.iconst 0, 1) := by decide +kernel
theorem dX10_occurrences_1 : decode cX10_occurrences 1 = .ok (.istore_n 1, 1) := by decide +kernel
theorem dX10_occurrences_2 : decode cX10_occurrences 2 = .ok (.iconst 0, 1) := by decide +kernel
theorem dX10_occurrences_3 : decode cX10_occurrences 3 = .ok (.istore_n 2, 1) := by decide +kernel
theorem dX10_occurrences_4 : decode cX10_occurrences 4 = .ok (.iload_n 2, 1) := by decide +kernel
theorem dX10_occurrences_5 : decode cX10_occurrences 5 = .ok (.aload_n 0, 1) := by decide +kernel
theorem dX10_occurrences_6 : decode cX10_occurrences 6 = .ok (.getfield 11, 3) := by decide +kernel
theorem dX10_occurrences_9 : decode cX10_occurrences 9 = .ok (.bipush 57, 2) := by decide +kernel
theorem dX10_occurrences_11 : decode cX10_occurrences 11 = .ok (.iaload, 1) := by decide +kernel
theorem dX10_occurrences_12 : decode cX10_occurrences 12 = .ok (.if_icmp .gt 41, 3) := by decide +kernel
theorem dX10_occurrences_15 : decode cX10_occurrences 15 = .ok (.aload_n 0, 1) := by decide +kernel
theorem dX10_occurrences_16 : decode cX10_occurrences 16 = .ok (.getfield 11, 3) := by decide +kernel
theorem dX10_occurrences_19 : decode cX10_occurrences 19 = .ok (.sipush 2328, 3) := by decide +kernel
theorem dX10_occurrences_22 : decode cX10_occurrences 22 = .ok (.iload_n 2, 1) := by decide +kernel
theorem dX10_occurrences_23 : decode cX10_occurrences 23 = .ok (.iadd, 1) := by decide +kernel
theorem dX10_occurrences_24 : decode cX10_occurrences 24 = .ok (.iaload, 1) := by decide +kernel
theorem dX10_occurrences_25 : decode cX10_occurrences 25 = .ok (.aload_n 0, 1) := by decide +kernel
theorem dX10_occurrences_26 : decode cX10_occurrences 26 = .ok (.getfield 11, 3) := by decide +kernel
theorem dX10_occurrences_29 : decode cX10_occurrences 29 = .ok (.sipush 2328, 3) := by decide +kernel
theorem dX10_occurrences_32 : decode cX10_occurrences 32 = .ok (.aload_n 0, 1) := by decide +kernel
theorem dX10_occurrences_33 : decode cX10_occurrences 33 = .ok (.getfield 11, 3) := by decide +kernel
theorem dX10_occurrences_36 : decode cX10_occurrences 36 = .ok (.bipush 57, 2) := by decide +kernel
theorem dX10_occurrences_38 : decode cX10_occurrences 38 = .ok (.iaload, 1) := by decide +kernel
theorem dX10_occurrences_39 : decode cX10_occurrences 39 = .ok (.iadd, 1) := by decide +kernel
theorem dX10_occurrences_40 : decode cX10_occurrences 40 = .ok (.iaload, 1) := by decide +kernel
theorem dX10_occurrences_41 : decode cX10_occurrences 41 = .ok (.if_icmp .ne 6, 3) := by decide +kernel
theorem dX10_occurrences_44 : decode cX10_occurrences 44 = .ok (.iinc 1 1, 3) := by decide +kernel
theorem dX10_occurrences_47 : decode cX10_occurrences 47 = .ok (.iinc 2 1, 3) := by decide +kernel
theorem dX10_occurrences_50 : decode cX10_occurrences 50 = .ok (.goto (-46), 3) := by decide +kernel
theorem dX10_occurrences_53 : decode cX10_occurrences 53 = .ok (.iload_n 1, 1) := by decide +kernel
theorem dX10_occurrences_54 : decode cX10_occurrences 54 = .ok (.ireturn, 1) := by decide +kernel
theorem dX10_make_0 : decode cX10_make 0 = .ok (.aload_n 0, 1) := by decide +kernel
theorem dX10_make_1 : decode cX10_make 1 = .ok (.invokevirtual 239, 3) := by decide +kernel
theorem dX10_make_4 : decode cX10_make 4 = .ok (.iload_n 1, 1) := by decide +kernel
theorem dX10_make_5 : decode cX10_make 5 = .ok (.iconst 0, 1) := by decide +kernel
theorem dX10_make_6 : decode cX10_make 6 = .ok (.aload_n 0, 1) := by decide +kernel
theorem dX10_make_7 : decode cX10_make 7 = .ok (.getfield 36, 3) := by decide +kernel
theorem dX10_make_10 : decode cX10_make 10 = .ok (.iconst 0, 1) := by decide +kernel
theorem dX10_make_11 : decode cX10_make 11 = .ok (.iaload, 1) := by decide +kernel
theorem dX10_make_12 : decode cX10_make 12 = .ok (.iconst 1, 1) := by decide +kernel
theorem dX10_make_13 : decode cX10_make 13 = .ok (.isub, 1) := by decide +kernel
theorem dX10_make_14 : decode cX10_make 14 = .ok (.invokestatic 61, 3) := by decide +kernel
theorem dX10_make_17 : decode cX10_make 17 = .ok (.ifCond .ne 5, 3) := by decide +kernel
theorem dX10_make_20 : decode cX10_make 20 = .ok (.iconst (-1), 1) := by decide +kernel
theorem dX10_make_21 : decode cX10_make 21 = .ok (.ireturn, 1) := by decide +kernel
theorem dX10_make_22 : decode cX10_make 22 = .ok (.aload_n 0, 1) := by decide +kernel
theorem dX10_make_23 : decode cX10_make 23 = .ok (.getfield 11, 3) := by decide +kernel
theorem dX10_make_26 : decode cX10_make 26 = .ok (.bipush 57, 2) := by decide +kernel
theorem dX10_make_28 : decode cX10_make 28 = .ok (.iaload, 1) := by decide +kernel
theorem dX10_make_29 : decode cX10_make 29 = .ok (.bipush 40, 2) := by decide +kernel
theorem dX10_make_31 : decode cX10_make 31 = .ok (.if_icmp .ne 6, 3) := by decide +kernel
theorem dX10_make_34 : decode cX10_make 34 = .ok (.bipush (-4), 2) := by decide +kernel
theorem dX10_make_36 : decode cX10_make 36 = .ok (.ireturn, 1) := by decide +kernel
theorem dX10_make_37 : decode cX10_make 37 = .ok (.iconst 0, 1) := by decide +kernel
theorem dX10_make_38 : decode cX10_make 38 = .ok (.istore_n 2, 1) := by decide +kernel
theorem dX10_make_39 : decode cX10_make 39 = .ok (.iload_n 2, 1) := by decide +kernel
theorem dX10_make_40 : decode cX10_make 40 = .ok (.bipush 53, 2) := by decide +kernel
theorem dX10_make_42 : decode cX10_make 42 = .ok (.if_icmp .ge 36, 3) := by decide +kernel
theorem dX10_make_45 : decode cX10_make 45 = .ok (.aload_n 0, 1) := by decide +kernel
theorem dX10_make_46 : decode cX10_make 46 = .ok (.getfield 11, 3) := by decide +kernel
theorem dX10_make_49 : decode cX10_make 49 = .ok (.sipush 208, 3) := by decide +kernel
theorem dX10_make_52 : decode cX10_make 52 = .ok (.bipush 53, 2) := by decide +kernel
theorem dX10_make_54 : decode cX10_make 54 = .ok (.aload_n 0, 1) := by decide +kernel
theorem dX10_make_55 : decode cX10_make 55 = .ok (.getfield 11, 3) := by decide +kernel
theorem dX10_make_58 : decode cX10_make 58 = .ok (.bipush 57, 2) := by decide +kernel
theorem dX10_make_60 : decode cX10_make 60 = .ok (.iaload, 1) := by decide +kernel
theorem dX10_make_61 : decode cX10_make 61 = .ok (.imul, 1) := by decide +kernel
theorem dX10_make_62 : decode cX10_make 62 = .ok (.iadd, 1) := by decide +kernel
theorem dX10_make_63 : decode cX10_make 63 = .ok (.iload_n 2, 1) := by decide +kernel
theorem dX10_make_64 : decode cX10_make 64 = .ok (.iadd, 1) := by decide +kernel
theorem dX10_make_65 : decode cX10_make 65 = .ok (.aload_n 0, 1) := by decide +kernel
theorem dX10_make_66 : decode cX10_make 66 = .ok (.getfield 11, 3) := by decide +kernel
theorem dX10_make_69 : decode cX10_make 69 = .ok (.iload_n 2, 1) := by decide +kernel
theorem dX10_make_70 : decode cX10_make 70 = .ok (.iaload, 1) := by decide +kernel
theorem dX10_make_71 : decode cX10_make 71 = .ok (.iastore, 1) := by decide +kernel
theorem dX10_make_72 : decode cX10_make 72 = .ok (.iinc 2 1, 3) := by decide +kernel
theorem dX10_make_75 : decode cX10_make 75 = .ok (.goto (-36), 3) := by decide +kernel
theorem dX10_make_78 : decode cX10_make 78 = .ok (.aload_n 0, 1) := by decide +kernel
theorem dX10_make_79 : decode cX10_make 79 = .ok (.aload_n 0, 1) := by decide +kernel
theorem dX10_make_80 : decode cX10_make 80 = .ok (.getfield 24, 3) := by decide +kernel
theorem dX10_make_83 : decode cX10_make 83 = .ok (.iload_n 1, 1) := by decide +kernel
theorem dX10_make_84 : decode cX10_make 84 = .ok (.iaload, 1) := by decide +kernel
theorem dX10_make_85 : decode cX10_make 85 = .ok (.aload_n 0, 1) := by decide +kernel
theorem dX10_make_86 : decode cX10_make 86 = .ok (.getfield 27, 3) := by decide +kernel
theorem dX10_make_89 : decode cX10_make 89 = .ok (.iload_n 1, 1) := by decide +kernel
theorem dX10_make_90 : decode cX10_make 90 = .ok (.iaload, 1) := by decide +kernel
theorem dX10_make_91 : decode cX10_make 91 = .ok (.aload_n 0, 1) := by decide +kernel
theorem dX10_make_92 : decode cX10_make 92 = .ok (.getfield 30, 3) := by decide +kernel
theorem dX10_make_95 : decode cX10_make 95 = .ok (.iload_n 1, 1) := by decide +kernel
theorem dX10_make_96 : decode cX10_make 96 = .ok (.iaload, 1) := by decide +kernel
theorem dX10_make_97 : decode cX10_make 97 = .ok (.aload_n 0, 1) := by decide +kernel
theorem dX10_make_98 : decode cX10_make 98 = .ok (.getfield 33, 3) := by decide +kernel
theorem dX10_make_101 : decode cX10_make 101 = .ok (.iload_n 1, 1) := by decide +kernel
theorem dX10_make_102 : decode cX10_make 102 = .ok (.iaload, 1) := by decide +kernel
theorem dX10_make_103 : decode cX10_make 103 = .ok (.invokevirtual 213, 3) := by decide +kernel
theorem dX10_make_106 : decode cX10_make 106 = .ok (.aload_n 0, 1) := by decide +kernel
theorem dX10_make_107 : decode cX10_make 107 = .ok (.getfield 11, 3) := by decide +kernel
theorem dX10_make_110 : decode cX10_make 110 = .ok (.bipush 57, 2) := by decide +kernel
theorem dX10_make_112 : decode cX10_make 112 = .ok (.dup2, 1) := by decide +kernel
theorem dX10_make_113 : decode cX10_make 113 = .ok (.iaload, 1) := by decide +kernel
theorem dX10_make_114 : decode cX10_make 114 = .ok (.iconst 1, 1) := by decide +kernel
theorem dX10_make_115 : decode cX10_make 115 = .ok (.iadd, 1) := by decide +kernel
theorem dX10_make_116 : decode cX10_make 116 = .ok (.iastore, 1) := by decide +kernel
theorem dX10_make_117 : decode cX10_make 117 = .ok (.aload_n 0, 1) := by decide +kernel
theorem dX10_make_118 : decode cX10_make 118 = .ok (.getfield 11, 3) := by decide +kernel
theorem dX10_make_121 : decode cX10_make 121 = .ok (.sipush 2328, 3) := by decide +kernel
theorem dX10_make_124 : decode cX10_make 124 = .ok (.aload_n 0, 1) := by decide +kernel
theorem dX10_make_125 : decode cX10_make 125 = .ok (.getfield 11, 3) := by decide +kernel
theorem dX10_make_128 : decode cX10_make 128 = .ok (.bipush 57, 2) := by decide +kernel
theorem dX10_make_130 : decode cX10_make 130 = .ok (.iaload, 1) := by decide +kernel
theorem dX10_make_131 : decode cX10_make 131 = .ok (.iadd, 1) := by decide +kernel
theorem dX10_make_132 : decode cX10_make 132 = .ok (.aload_n 0, 1) := by decide +kernel
theorem dX10_make_133 : decode cX10_make 133 = .ok (.invokevirtual 82, 3) := by decide +kernel
theorem dX10_make_136 : decode cX10_make 136 = .ok (.iastore, 1) := by decide +kernel
theorem dX10_make_137 : decode cX10_make 137 = .ok (.aload_n 0, 1) := by decide +kernel
theorem dX10_make_138 : decode cX10_make 138 = .ok (.invokevirtual 79, 3) := by decide +kernel
theorem dX10_make_141 : decode cX10_make 141 = .ok (.aload_n 0, 1) := by decide +kernel
theorem dX10_make_142 : decode cX10_make 142 = .ok (.invokevirtual 255, 3) := by decide +kernel
theorem dX10_make_145 : decode cX10_make 145 = .ok (.ireturn, 1) := by decide +kernel
theorem dX10_back_0 : decode cX10_back 0 = .ok (.aload_n 0, 1) := by decide +kernel
theorem dX10_back_1 : decode cX10_back 1 = .ok (.getfield 11, 3) := by decide +kernel
theorem dX10_back_4 : decode cX10_back 4 = .ok (.bipush 57, 2) := by decide +kernel
theorem dX10_back_6 : decode cX10_back 6 = .ok (.iaload, 1) := by decide +kernel
theorem dX10_back_7 : decode cX10_back 7 = .ok (.ifCond .ne 6, 3) := by decide +kernel
theorem dX10_back_10 : decode cX10_back 10 = .ok (.bipush (-3), 2) := by decide +kernel
theorem dX10_back_12 : decode cX10_back 12 = .ok (.ireturn, 1) := by decide +kernel
theorem dX10_back_13 : decode cX10_back 13 = .ok (.aload_n 0, 1) := by decide +kernel
theorem dX10_back_14 : decode cX10_back 14 = .ok (.getfield 11, 3) := by decide +kernel
theorem dX10_back_17 : decode cX10_back 17 = .ok (.bipush 57, 2) := by decide +kernel
theorem dX10_back_19 : decode cX10_back 19 = .ok (.dup2, 1) := by decide +kernel
theorem dX10_back_20 : decode cX10_back 20 = .ok (.iaload, 1) := by decide +kernel
theorem dX10_back_21 : decode cX10_back 21 = .ok (.iconst 1, 1) := by decide +kernel
theorem dX10_back_22 : decode cX10_back 22 = .ok (.isub, 1) := by decide +kernel
theorem dX10_back_23 : decode cX10_back 23 = .ok (.iastore, 1) := by decide +kernel
theorem dX10_back_24 : decode cX10_back 24 = .ok (.iconst 0, 1) := by decide +kernel
theorem dX10_back_25 : decode cX10_back 25 = .ok (.istore_n 1, 1) := by decide +kernel
theorem dX10_back_26 : decode cX10_back 26 = .ok (.iload_n 1, 1) := by decide +kernel
theorem dX10_back_27 : decode cX10_back 27 = .ok (.bipush 53, 2) := by decide +kernel
theorem dX10_back_29 : decode cX10_back 29 = .ok (.if_icmp .ge 36, 3) := by decide +kernel
theorem dX10_back_32 : decode cX10_back 32 = .ok (.aload_n 0, 1) := by decide +kernel
theorem dX10_back_33 : decode cX10_back 33 = .ok (.getfield 11, 3) := by decide +kernel
theorem dX10_back_36 : decode cX10_back 36 = .ok (.iload_n 1, 1) := by decide +kernel
theorem dX10_back_37 : decode cX10_back 37 = .ok (.aload_n 0, 1) := by decide +kernel
theorem dX10_back_38 : decode cX10_back 38 = .ok (.getfield 11, 3) := by decide +kernel
theorem dX10_back_41 : decode cX10_back 41 = .ok (.sipush 208, 3) := by decide +kernel
theorem dX10_back_44 : decode cX10_back 44 = .ok (.bipush 53, 2) := by decide +kernel
theorem dX10_back_46 : decode cX10_back 46 = .ok (.aload_n 0, 1) := by decide +kernel
theorem dX10_back_47 : decode cX10_back 47 = .ok (.getfield 11, 3) := by decide +kernel
theorem dX10_back_50 : decode cX10_back 50 = .ok (.bipush 57, 2) := by decide +kernel
theorem dX10_back_52 : decode cX10_back 52 = .ok (.iaload, 1) := by decide +kernel
theorem dX10_back_53 : decode cX10_back 53 = .ok (.imul, 1) := by decide +kernel
theorem dX10_back_54 : decode cX10_back 54 = .ok (.iadd, 1) := by decide +kernel
theorem dX10_back_55 : decode cX10_back 55 = .ok (.iload_n 1, 1) := by decide +kernel
theorem dX10_back_56 : decode cX10_back 56 = .ok (.iadd, 1) := by decide +kernel
theorem dX10_back_57 : decode cX10_back 57 = .ok (.iaload, 1) := by decide +kernel
theorem dX10_back_58 : decode cX10_back 58 = .ok (.iastore, 1) := by decide +kernel
theorem dX10_back_59 : decode cX10_back 59 = .ok (.iinc 1 1, 3) := by decide +kernel
theorem dX10_back_62 : decode cX10_back 62 = .ok (.goto (-36), 3) := by decide +kernel
theorem dX10_back_65 : decode cX10_back 65 = .ok (.aload_n 0, 1) := by decide +kernel
theorem dX10_back_66 : decode cX10_back 66 = .ok (.invokevirtual 79, 3) := by decide +kernel
theorem dX10_back_69 : decode cX10_back 69 = .ok (.aload_n 0, 1) := by decide +kernel
theorem dX10_back_70 : decode cX10_back 70 = .ok (.getfield 11, 3) := by decide +kernel
theorem dX10_back_73 : decode cX10_back 73 = .ok (.bipush 57, 2) := by decide +kernel
theorem dX10_back_75 : decode cX10_back 75 = .ok (.iaload, 1) := by decide +kernel
theorem dX10_back_76 : decode cX10_back 76 = .ok (.ireturn, 1) := by decide +kernel
theorem dX10_attackers_0 : decode cX10_attackers 0 = .ok (.aload_n 0, 1) := by decide +kernel
theorem dX10_attackers_1 : decode cX10_attackers 1 = .ok (.iload_n 1, 1) := by decide +kernel
theorem dX10_attackers_2 : decode cX10_attackers 2 = .ok (.invokevirtual 149, 3) := by decide +kernel
theorem dX10_attackers_5 : decode cX10_attackers 5 = .ok (.ifCond .eq 12, 3) := by decide +kernel
theorem dX10_attackers_8 : decode cX10_attackers 8 = .ok (.iload_n 2, 1) := by decide +kernel
theorem dX10_attackers_9 : decode cX10_attackers 9 = .ok (.iconst 0, 1) := by decide +kernel
theorem dX10_attackers_10 : decode cX10_attackers 10 = .ok (.iconst 1, 1) := by decide +kernel
theorem dX10_attackers_11 : decode cX10_attackers 11 = .ok (.invokestatic 61, 3) := by decide +kernel
theorem dX10_attackers_14 : decode cX10_attackers 14 = .ok (.ifCond .ne 7, 3) := by decide +kernel
theorem dX10_attackers_17 : decode cX10_attackers 17 = .ok (.ldc2_w 258, 3) := by decide +kernel
theorem dX10_attackers_20 : decode cX10_attackers 20 = .ok (.lreturn, 1) := by decide +kernel
theorem dX10_attackers_21 : decode cX10_attackers 21 = .ok (.lconst 0, 1) := by decide +kernel
theorem dX10_attackers_22 : decode cX10_attackers 22 = .ok (.lstore_n 3, 1) := by decide +kernel
theorem dX10_attackers_23 : decode cX10_attackers 23 = .ok (.iconst 0, 1) := by decide +kernel
theorem dX10_attackers_24 : decode cX10_attackers 24 = .ok (.istore 5, 2) := by decide +kernel
theorem dX10_attackers_26 : decode cX10_attackers 26 = .ok (.iload 5, 2) := by decide +kernel
theorem dX10_attackers_28 : decode cX10_attackers 28 = .ok (.aload_n 0, 1) := by decide +kernel
theorem dX10_attackers_29 : decode cX10_attackers 29 = .ok (.invokevirtual 65, 3) := by decide +kernel
theorem dX10_attackers_32 : decode cX10_attackers 32 = .ok (.if_icmp .ge 50, 3) := by decide +kernel
theorem dX10_attackers_35 : decode cX10_attackers 35 = .ok (.aload_n 0, 1) := by decide +kernel
theorem dX10_attackers_36 : decode cX10_attackers 36 = .ok (.iload 5, 2) := by decide +kernel
theorem dX10_attackers_38 : decode cX10_attackers 38 = .ok (.iload_n 2, 1) := by decide +kernel
theorem dX10_attackers_39 : decode cX10_attackers 39 = .ok (.invokevirtual 175, 3) := by decide +kernel
theorem dX10_attackers_42 : decode cX10_attackers 42 = .ok (.ifCond .eq 34, 3) := by decide +kernel
theorem dX10_attackers_45 : decode cX10_attackers 45 = .ok (.aload_n 0, 1) := by decide +kernel
theorem dX10_attackers_46 : decode cX10_attackers 46 = .ok (.aload_n 0, 1) := by decide +kernel
theorem dX10_attackers_47 : decode cX10_attackers 47 = .ok (.iload 5, 2) := by decide +kernel
theorem dX10_attackers_49 : decode cX10_attackers 49 = .ok (.invokevirtual 69, 3) := by decide +kernel
theorem dX10_attackers_52 : decode cX10_attackers 52 = .ok (.bipush 6, 2) := by decide +kernel
theorem dX10_attackers_54 : decode cX10_attackers 54 = .ok (.irem, 1) := by decide +kernel
theorem dX10_attackers_55 : decode cX10_attackers 55 = .ok (.iload 5, 2) := by decide +kernel
theorem dX10_attackers_57 : decode cX10_attackers 57 = .ok (.iload_n 2, 1) := by decide +kernel
theorem dX10_attackers_58 : decode cX10_attackers 58 = .ok (.iconst 1, 1) := by decide +kernel
theorem dX10_attackers_59 : decode cX10_attackers 59 = .ok (.invokevirtual 183, 3) := by decide +kernel
theorem dX10_attackers_62 : decode cX10_attackers 62 = .ok (.iload_n 1, 1) := by decide +kernel
theorem dX10_attackers_63 : decode cX10_attackers 63 = .ok (.invokestatic 225, 3) := by decide +kernel
theorem dX10_attackers_66 : decode cX10_attackers 66 = .ok (.ifCond .eq 10, 3) := by decide +kernel
theorem dX10_attackers_69 : decode cX10_attackers 69 = .ok (.lload_n 3, 1) := by decide +kernel
theorem dX10_attackers_70 : decode cX10_attackers 70 = .ok (.lconst 1, 1) := by decide +kernel
theorem dX10_attackers_71 : decode cX10_attackers 71 = .ok (.iload 5, 2) := by decide +kernel
theorem dX10_attackers_73 : decode cX10_attackers 73 = .ok (.lshl, 1) := by decide +kernel
theorem dX10_attackers_74 : decode cX10_attackers 74 = .ok (.lor, 1) := by decide +kernel
theorem dX10_attackers_75 : decode cX10_attackers 75 = .ok (.lstore_n 3, 1) := by decide +kernel
theorem dX10_attackers_76 : decode cX10_attackers 76 = .ok (.iinc 5 1, 3) := by decide +kernel
theorem dX10_attackers_79 : decode cX10_attackers 79 = .ok (.goto (-53), 3) := by decide +kernel
theorem dX10_attackers_82 : decode cX10_attackers 82 = .ok (.lload_n 3, 1) := by decide +kernel
theorem dX10_attackers_83 : decode cX10_attackers 83 = .ok (.lreturn, 1) := by decide +kernel
theorem dX10_attacked_0 : decode cX10_attacked 0 = .ok (.iload_n 1, 1) := by decide +kernel
theorem dX10_attacked_1 : decode cX10_attacked 1 = .ok (.iconst 0, 1) := by decide +kernel
theorem dX10_attacked_2 : decode cX10_attacked 2 = .ok (.iconst 1, 1) := by decide +kernel
theorem dX10_attacked_3 : decode cX10_attacked 3 = .ok (.invokestatic 61, 3) := by decide +kernel
theorem dX10_attacked_6 : decode cX10_attacked 6 = .ok (.ifCond .eq 11, 3) := by decide +kernel
theorem dX10_attacked_9 : decode cX10_attacked 9 = .ok (.aload_n 0, 1) := by decide +kernel
theorem dX10_attacked_10 : decode cX10_attacked 10 = .ok (.iload_n 1, 1) := by decide +kernel
theorem dX10_attacked_11 : decode cX10_attacked 11 = .ok (.invokevirtual 190, 3) := by decide +kernel
theorem dX10_attacked_14 : decode cX10_attacked 14 = .ok (.goto 6, 3) := by decide +kernel
theorem dX10_attacked_17 : decode cX10_attacked 17 = .ok (.ldc2_w 258, 3) := by decide +kernel
theorem dX10_attacked_20 : decode cX10_attacked 20 = .ok (.lreturn, 1) := by decide +kernel
theorem dX10_status_0 : decode cX10_status 0 = .ok (.aload_n 0, 1) := by decide +kernel
theorem dX10_status_1 : decode cX10_status 1 = .ok (.invokevirtual 239, 3) := by decide +kernel
theorem dX10_status_4 : decode cX10_status 4 = .ok (.aload_n 0, 1) := by decide +kernel
theorem dX10_status_5 : decode cX10_status 5 = .ok (.getfield 36, 3) := by decide +kernel
theorem dX10_status_8 : decode cX10_status 8 = .ok (.iconst 0, 1) := by decide +kernel
theorem dX10_status_9 : decode cX10_status 9 = .ok (.iaload, 1) := by decide +kernel
theorem dX10_status_10 : decode cX10_status 10 = .ok (.ifCond .le 7, 3) := by decide +kernel
theorem dX10_status_13 : decode cX10_status 13 = .ok (.iconst 0, 1) := by decide +kernel
theorem dX10_status_14 : decode cX10_status 14 = .ok (.goto 21, 3) := by decide +kernel
theorem dX10_status_17 : decode cX10_status 17 = .ok (.aload_n 0, 1) := by decide +kernel
theorem dX10_status_18 : decode cX10_status 18 = .ok (.aload_n 0, 1) := by decide +kernel
theorem dX10_status_19 : decode cX10_status 19 = .ok (.getfield 11, 3) := by decide +kernel
theorem dX10_status_22 : decode cX10_status 22 = .ok (.iconst 0, 1) := by decide +kernel
theorem dX10_status_23 : decode cX10_status 23 = .ok (.iaload, 1) := by decide +kernel
theorem dX10_status_24 : decode cX10_status 24 = .ok (.invokevirtual 216, 3) := by decide +kernel
theorem dX10_status_27 : decode cX10_status 27 = .ok (.ifCond .eq 7, 3) := by decide +kernel
theorem dX10_status_30 : decode cX10_status 30 = .ok (.iconst 2, 1) := by decide +kernel
theorem dX10_status_31 : decode cX10_status 31 = .ok (.goto 4, 3) := by decide +kernel
theorem dX10_status_34 : decode cX10_status 34 = .ok (.iconst 1, 1) := by decide +kernel
theorem dX10_status_35 : decode cX10_status 35 = .ok (.ireturn, 1) := by decide +kernel
theorem dX10_sequences_0 : decode cX10_sequences 0 = .ok (.iload_n 1, 1) := by decide +kernel
theorem dX10_sequences_1 : decode cX10_sequences 1 = .ok (.iconst 0, 1) := by decide +kernel
theorem dX10_sequences_2 : decode cX10_sequences 2 = .ok (.iconst 2, 1) := by decide +kernel
theorem dX10_sequences_3 : decode cX10_sequences 3 = .ok (.invokestatic 61, 3) := by decide +kernel
theorem dX10_sequences_6 : decode cX10_sequences 6 = .ok (.ifCond .ne 6, 3) := by decide +kernel
theorem dX10_sequences_9 : decode cX10_sequences 9 = .ok (.bipush (-2), 2) := by decide +kernel
theorem dX10_sequences_11 : decode cX10_sequences 11 = .ok (.ireturn, 1) := by decide +kernel
theorem dX10_sequences_12 : decode cX10_sequences 12 = .ok (.iload_n 2, 1) := by decide +kernel
theorem dX10_sequences_13 : decode cX10_sequences 13 = .ok (.iconst 0, 1) := by decide +kernel
theorem dX10_sequences_14 : decode cX10_sequences 14 = .ok (.iconst 1, 1) := by decide +kernel
theorem dX10_sequences_15 : decode cX10_sequences 15 = .ok (.invokestatic 61, 3) := by decide +kernel
theorem dX10_sequences_18 : decode cX10_sequences 18 = .ok (.ifCond .ne 5, 3) := by decide +kernel
theorem dX10_sequences_21 : decode cX10_sequences 21 = .ok (.iconst (-1), 1) := by decide +kernel
theorem dX10_sequences_22 : decode cX10_sequences 22 = .ok (.ireturn, 1) := by decide +kernel
theorem dX10_sequences_23 : decode cX10_sequences 23 = .ok (.aload_n 0, 1) := by decide +kernel
theorem dX10_sequences_24 : decode cX10_sequences 24 = .ok (.invokevirtual 239, 3) := by decide +kernel
theorem dX10_sequences_27 : decode cX10_sequences 27 = .ok (.iload_n 1, 1) := by decide +kernel
theorem dX10_sequences_28 : decode cX10_sequences 28 = .ok (.iconst 2, 1) := by decide +kernel
theorem dX10_sequences_29 : decode cX10_sequences 29 = .ok (.if_icmp .ge 18, 3) := by decide +kernel
theorem dX10_sequences_32 : decode cX10_sequences 32 = .ok (.iload_n 1, 1) := by decide +kernel
theorem dX10_sequences_33 : decode cX10_sequences 33 = .ok (.ifCond .ne 7, 3) := by decide +kernel
theorem dX10_sequences_36 : decode cX10_sequences 36 = .ok (.iconst 1, 1) := by decide +kernel
theorem dX10_sequences_37 : decode cX10_sequences 37 = .ok (.goto 9, 3) := by decide +kernel
theorem dX10_sequences_40 : decode cX10_sequences 40 = .ok (.aload_n 0, 1) := by decide +kernel
theorem dX10_sequences_41 : decode cX10_sequences 41 = .ok (.getfield 36, 3) := by decide +kernel
theorem dX10_sequences_44 : decode cX10_sequences 44 = .ok (.iconst 0, 1) := by decide +kernel
theorem dX10_sequences_45 : decode cX10_sequences 45 = .ok (.iaload, 1) := by decide +kernel
theorem dX10_sequences_46 : decode cX10_sequences 46 = .ok (.ireturn, 1) := by decide +kernel
theorem dX10_sequences_47 : decode cX10_sequences 47 = .ok (.aload_n 0, 1) := by decide +kernel
theorem dX10_sequences_48 : decode cX10_sequences 48 = .ok (.getfield 42, 3) := by decide +kernel
theorem dX10_sequences_51 : decode cX10_sequences 51 = .ok (.iconst 2, 1) := by decide +kernel
theorem dX10_sequences_52 : decode cX10_sequences 52 = .ok (.iaload, 1) := by decide +kernel
theorem dX10_sequences_53 : decode cX10_sequences 53 = .ok (.ifCond .lt 10, 3) := by decide +kernel
theorem dX10_sequences_56 : decode cX10_sequences 56 = .ok (.aload_n 0, 1) := by decide +kernel
theorem dX10_sequences_57 : decode cX10_sequences 57 = .ok (.getfield 42, 3) := by decide +kernel
theorem dX10_sequences_60 : decode cX10_sequences 60 = .ok (.iconst 2, 1) := by decide +kernel
theorem dX10_sequences_61 : decode cX10_sequences 61 = .ok (.iaload, 1) := by decide +kernel
theorem dX10_sequences_62 : decode cX10_sequences 62 = .ok (.ireturn, 1) := by decide +kernel
theorem dX10_sequences_63 : decode cX10_sequences 63 = .ok (.iconst 0, 1) := by decide +kernel
theorem dX10_sequences_64 : decode cX10_sequences 64 = .ok (.istore_n 3, 1) := by decide +kernel
theorem dX10_sequences_65 : decode cX10_sequences 65 = .ok (.iconst 0, 1) := by decide +kernel
theorem dX10_sequences_66 : decode cX10_sequences 66 = .ok (.istore 4, 2) := by decide +kernel
theorem dX10_sequences_68 : decode cX10_sequences 68 = .ok (.iload 4, 2) := by decide +kernel
theorem dX10_sequences_70 : decode cX10_sequences 70 = .ok (.aload_n 0, 1) := by decide +kernel
theorem dX10_sequences_71 : decode cX10_sequences 71 = .ok (.getfield 36, 3) := by decide +kernel
theorem dX10_sequences_74 : decode cX10_sequences 74 = .ok (.iconst 0, 1) := by decide +kernel
theorem dX10_sequences_75 : decode cX10_sequences 75 = .ok (.iaload, 1) := by decide +kernel
theorem dX10_sequences_76 : decode cX10_sequences 76 = .ok (.if_icmp .ge 65, 3) := by decide +kernel
theorem dX10_sequences_79 : decode cX10_sequences 79 = .ok (.aload_n 0, 1) := by decide +kernel
theorem dX10_sequences_80 : decode cX10_sequences 80 = .ok (.iconst 0, 1) := by decide +kernel
theorem dX10_sequences_81 : decode cX10_sequences 81 = .ok (.invokevirtual 210, 3) := by decide +kernel
theorem dX10_sequences_84 : decode cX10_sequences 84 = .ok (.aload_n 0, 1) := by decide +kernel
theorem dX10_sequences_85 : decode cX10_sequences 85 = .ok (.aload_n 0, 1) := by decide +kernel
theorem dX10_sequences_86 : decode cX10_sequences 86 = .ok (.getfield 24, 3) := by decide +kernel
theorem dX10_sequences_89 : decode cX10_sequences 89 = .ok (.iload 4, 2) := by decide +kernel
theorem dX10_sequences_91 : decode cX10_sequences 91 = .ok (.iaload, 1) := by decide +kernel
theorem dX10_sequences_92 : decode cX10_sequences 92 = .ok (.aload_n 0, 1) := by decide +kernel
theorem dX10_sequences_93 : decode cX10_sequences 93 = .ok (.getfield 27, 3) := by decide +kernel
theorem dX10_sequences_96 : decode cX10_sequences 96 = .ok (.iload 4, 2) := by decide +kernel
theorem dX10_sequences_98 : decode cX10_sequences 98 = .ok (.iaload, 1) := by decide +kernel
theorem dX10_sequences_99 : decode cX10_sequences 99 = .ok (.aload_n 0, 1) := by decide +kernel
theorem dX10_sequences_100 : decode cX10_sequences 100 = .ok (.getfield 30, 3) := by decide +kernel
theorem dX10_sequences_103 : decode cX10_sequences 103 = .ok (.iload 4, 2) := by decide +kernel
theorem dX10_sequences_105 : decode cX10_sequences 105 = .ok (.iaload, 1) := by decide +kernel
theorem dX10_sequences_106 : decode cX10_sequences 106 = .ok (.aload_n 0, 1) := by decide +kernel
theorem dX10_sequences_107 : decode cX10_sequences 107 = .ok (.getfield 33, 3) := by decide +kernel
theorem dX10_sequences_110 : decode cX10_sequences 110 = .ok (.iload 4, 2) := by decide +kernel
theorem dX10_sequences_112 : decode cX10_sequences 112 = .ok (.iaload, 1) := by decide +kernel
theorem dX10_sequences_113 : decode cX10_sequences 113 = .ok (.invokevirtual 213, 3) := by decide +kernel
theorem dX10_sequences_116 : decode cX10_sequences 116 = .ok (.aload_n 0, 1) := by decide +kernel
theorem dX10_sequences_117 : decode cX10_sequences 117 = .ok (.iconst 1, 1) := by decide +kernel
theorem dX10_sequences_118 : decode cX10_sequences 118 = .ok (.invokevirtual 236, 3) := by decide +kernel
theorem dX10_sequences_121 : decode cX10_sequences 121 = .ok (.iload_n 3, 1) := by decide +kernel
theorem dX10_sequences_122 : decode cX10_sequences 122 = .ok (.aload_n 0, 1) := by decide +kernel
theorem dX10_sequences_123 : decode cX10_sequences 123 = .ok (.getfield 36, 3) := by decide +kernel
theorem dX10_sequences_126 : decode cX10_sequences 126 = .ok (.iconst 1, 1) := by decide +kernel
theorem dX10_sequences_127 : decode cX10_sequences 127 = .ok (.iaload, 1) := by decide +kernel
theorem dX10_sequences_128 : decode cX10_sequences 128 = .ok (.iadd, 1) := by decide +kernel
theorem dX10_sequences_129 : decode cX10_sequences 129 = .ok (.istore_n 3, 1) := by decide +kernel
theorem dX10_sequences_130 : decode cX10_sequences 130 = .ok (.aload_n 0, 1) := by decide +kernel
theorem dX10_sequences_131 : decode cX10_sequences 131 = .ok (.iconst 0, 1) := by decide +kernel
theorem dX10_sequences_132 : decode cX10_sequences 132 = .ok (.invokevirtual 219, 3) := by decide +kernel
theorem dX10_sequences_135 : decode cX10_sequences 135 = .ok (.iinc 4 1, 3) := by decide +kernel
theorem dX10_sequences_138 : decode cX10_sequences 138 = .ok (.goto (-70), 3) := by decide +kernel
theorem dX10_sequences_141 : decode cX10_sequences 141 = .ok (.aload_n 0, 1) := by decide +kernel
theorem dX10_sequences_142 : decode cX10_sequences 142 = .ok (.getfield 42, 3) := by decide +kernel
theorem dX10_sequences_145 : decode cX10_sequences 145 = .ok (.iconst 2, 1) := by decide +kernel
theorem dX10_sequences_146 : decode cX10_sequences 146 = .ok (.iload_n 3, 1) := by decide +kernel
theorem dX10_sequences_147 : decode cX10_sequences 147 = .ok (.iastore, 1) := by decide +kernel
theorem dX10_sequences_148 : decode cX10_sequences 148 = .ok (.iload_n 3, 1) := by decide +kernel
theorem dX10_sequences_149 : decode cX10_sequences 149 = .ok (.ireturn, 1) := by decide +kernel
theorem dX10_letterOf_0 : decode cX10_letterOf 0 = .ok (.iload_n 0, 1) := by decide +kernel
theorem dX10_letterOf_1 : decode cX10_letterOf 1 = .ok (.bipush 6, 2) := by decide +kernel
theorem dX10_letterOf_3 : decode cX10_letterOf 3 = .ok (.if_icmp .ge 10, 3) := by decide +kernel
theorem dX10_letterOf_6 : decode cX10_letterOf 6 = .ok (.bipush 65, 2) := by decide +kernel
theorem dX10_letterOf_8 : decode cX10_letterOf 8 = .ok (.iload_n 0, 1) := by decide +kernel
theorem dX10_letterOf_9 : decode cX10_letterOf 9 = .ok (.iadd, 1) := by decide +kernel
theorem dX10_letterOf_10 : decode cX10_letterOf 10 = .ok (.goto 10, 3) := by decide +kernel
theorem dX10_letterOf_13 : decode cX10_letterOf 13 = .ok (.bipush 97, 2) := by decide +kernel
theorem dX10_letterOf_15 : decode cX10_letterOf 15 = .ok (.iload_n 0, 1) := by decide +kernel
theorem dX10_letterOf_16 : decode cX10_letterOf 16 = .ok (.iadd, 1) := by decide +kernel
theorem dX10_letterOf_17 : decode cX10_letterOf 17 = .ok (.bipush 6, 2) := by decide +kernel
theorem dX10_letterOf_19 : decode cX10_letterOf 19 = .ok (.isub, 1) := by decide +kernel
theorem dX10_letterOf_20 : decode cX10_letterOf 20 = .ok (.ireturn, 1) := by decide +kernel
theorem dX10_writes_0 : decode cX10_writes 0 = .ok (.iconst 0, 1) := by decide +kernel
theorem dX10_writes_1 : decode cX10_writes 1 = .ok (.istore_n 1, 1) := by decide +kernel
theorem dX10_writes_2 : decode cX10_writes 2 = .ok (.aload_n 0, 1) := by decide +kernel
theorem dX10_writes_3 : decode cX10_writes 3 = .ok (.getfield 11, 3) := by decide +kernel
theorem dX10_writes_6 : decode cX10_writes 6 = .ok (.bipush 54, 2) := by decide +kernel
theorem dX10_writes_8 : decode cX10_writes 8 = .ok (.iaload, 1) := by decide +kernel
theorem dX10_writes_9 : decode cX10_writes 9 = .ok (.iconst 1, 1) := by decide +kernel
theorem dX10_writes_10 : decode cX10_writes 10 = .ok (.isub, 1) := by decide +kernel
theorem dX10_writes_11 : decode cX10_writes 11 = .ok (.istore_n 2, 1) := by decide +kernel
theorem dX10_writes_12 : decode cX10_writes 12 = .ok (.iload_n 2, 1) := by decide +kernel
theorem dX10_writes_13 : decode cX10_writes 13 = .ok (.ifCond .lt 160, 3) := by decide +kernel
theorem dX10_writes_16 : decode cX10_writes 16 = .ok (.iconst 0, 1) := by decide +kernel
theorem dX10_writes_17 : decode cX10_writes 17 = .ok (.istore_n 3, 1) := by decide +kernel
theorem dX10_writes_18 : decode cX10_writes 18 = .ok (.iconst 0, 1) := by decide +kernel
theorem dX10_writes_19 : decode cX10_writes 19 = .ok (.istore 4, 2) := by decide +kernel
theorem dX10_writes_21 : decode cX10_writes 21 = .ok (.iload 4, 2) := by decide +kernel
theorem dX10_writes_23 : decode cX10_writes 23 = .ok (.aload_n 0, 1) := by decide +kernel
theorem dX10_writes_24 : decode cX10_writes 24 = .ok (.getfield 11, 3) := by decide +kernel
theorem dX10_writes_27 : decode cX10_writes 27 = .ok (.bipush 53, 2) := by decide +kernel
theorem dX10_writes_29 : decode cX10_writes 29 = .ok (.iaload, 1) := by decide +kernel
theorem dX10_writes_30 : decode cX10_writes 30 = .ok (.if_icmp .ge 122, 3) := by decide +kernel
theorem dX10_writes_33 : decode cX10_writes 33 = .ok (.aload_n 0, 1) := by decide +kernel
theorem dX10_writes_34 : decode cX10_writes 34 = .ok (.aload_n 0, 1) := by decide +kernel
theorem dX10_writes_35 : decode cX10_writes 35 = .ok (.getfield 11, 3) := by decide +kernel
theorem dX10_writes_38 : decode cX10_writes 38 = .ok (.bipush 53, 2) := by decide +kernel
theorem dX10_writes_40 : decode cX10_writes 40 = .ok (.iaload, 1) := by decide +kernel
theorem dX10_writes_41 : decode cX10_writes 41 = .ok (.iload_n 2, 1) := by decide +kernel
theorem dX10_writes_42 : decode cX10_writes 42 = .ok (.imul, 1) := by decide +kernel
theorem dX10_writes_43 : decode cX10_writes 43 = .ok (.iload 4, 2) := by decide +kernel
theorem dX10_writes_45 : decode cX10_writes 45 = .ok (.iadd, 1) := by decide +kernel
theorem dX10_writes_46 : decode cX10_writes 46 = .ok (.invokevirtual 69, 3) := by decide +kernel
theorem dX10_writes_49 : decode cX10_writes 49 = .ok (.istore 5, 2) := by decide +kernel
theorem dX10_writes_51 : decode cX10_writes 51 = .ok (.iload 5, 2) := by decide +kernel
theorem dX10_writes_53 : decode cX10_writes 53 = .ok (.ifCond .ge 9, 3) := by decide +kernel
theorem dX10_writes_56 : decode cX10_writes 56 = .ok (.iload_n 3, 1) := by decide +kernel
theorem dX10_writes_57 : decode cX10_writes 57 = .ok (.iconst 1, 1) := by decide +kernel
theorem dX10_writes_58 : decode cX10_writes 58 = .ok (.iadd, 1) := by decide +kernel
theorem dX10_writes_59 : decode cX10_writes 59 = .ok (.goto 4, 3) := by decide +kernel
theorem dX10_writes_62 : decode cX10_writes 62 = .ok (.iconst 0, 1) := by decide +kernel
theorem dX10_writes_63 : decode cX10_writes 63 = .ok (.istore_n 3, 1) := by decide +kernel
theorem dX10_writes_64 : decode cX10_writes 64 = .ok (.iload 4, 2) := by decide +kernel
theorem dX10_writes_66 : decode cX10_writes 66 = .ok (.aload_n 0, 1) := by decide +kernel
theorem dX10_writes_67 : decode cX10_writes 67 = .ok (.getfield 11, 3) := by decide +kernel
theorem dX10_writes_70 : decode cX10_writes 70 = .ok (.bipush 53, 2) := by decide +kernel
theorem dX10_writes_72 : decode cX10_writes 72 = .ok (.iaload, 1) := by decide +kernel
theorem dX10_writes_73 : decode cX10_writes 73 = .ok (.iconst 1, 1) := by decide +kernel
theorem dX10_writes_74 : decode cX10_writes 74 = .ok (.isub, 1) := by decide +kernel
theorem dX10_writes_75 : decode cX10_writes 75 = .ok (.if_icmp .eq 24, 3) := by decide +kernel
theorem dX10_writes_78 : decode cX10_writes 78 = .ok (.aload_n 0, 1) := by decide +kernel
theorem dX10_writes_79 : decode cX10_writes 79 = .ok (.aload_n 0, 1) := by decide +kernel
theorem dX10_writes_80 : decode cX10_writes 80 = .ok (.getfield 11, 3) := by decide +kernel
theorem dX10_writes_83 : decode cX10_writes 83 = .ok (.bipush 53, 2) := by decide +kernel
theorem dX10_writes_85 : decode cX10_writes 85 = .ok (.iaload, 1) := by decide +kernel
theorem dX10_writes_86 : decode cX10_writes 86 = .ok (.iload_n 2, 1) := by decide +kernel
theorem dX10_writes_87 : decode cX10_writes 87 = .ok (.imul, 1) := by decide +kernel
theorem dX10_writes_88 : decode cX10_writes 88 = .ok (.iload 4, 2) := by decide +kernel
theorem dX10_writes_90 : decode cX10_writes 90 = .ok (.iadd, 1) := by decide +kernel
theorem dX10_writes_91 : decode cX10_writes 91 = .ok (.iconst 1, 1) := by decide +kernel
theorem dX10_writes_92 : decode cX10_writes 92 = .ok (.iadd, 1) := by decide +kernel
theorem dX10_writes_93 : decode cX10_writes 93 = .ok (.invokevirtual 69, 3) := by decide +kernel
theorem dX10_writes_96 : decode cX10_writes 96 = .ok (.ifCond .lt 7, 3) := by decide +kernel
theorem dX10_writes_99 : decode cX10_writes 99 = .ok (.iconst 1, 1) := by decide +kernel
theorem dX10_writes_100 : decode cX10_writes 100 = .ok (.goto 4, 3) := by decide +kernel
theorem dX10_writes_103 : decode cX10_writes 103 = .ok (.iconst 0, 1) := by decide +kernel
theorem dX10_writes_104 : decode cX10_writes 104 = .ok (.istore 6, 2) := by decide +kernel
theorem dX10_writes_106 : decode cX10_writes 106 = .ok (.iload 5, 2) := by decide +kernel
theorem dX10_writes_108 : decode cX10_writes 108 = .ok (.ifCond .lt 20, 3) := by decide +kernel
theorem dX10_writes_111 : decode cX10_writes 111 = .ok (.aload_n 0, 1) := by decide +kernel
theorem dX10_writes_112 : decode cX10_writes 112 = .ok (.getfield 51, 3) := by decide +kernel
theorem dX10_writes_115 : decode cX10_writes 115 = .ok (.iload_n 1, 1) := by decide +kernel
theorem dX10_writes_116 : decode cX10_writes 116 = .ok (.iinc 1 1, 3) := by decide +kernel
theorem dX10_writes_119 : decode cX10_writes 119 = .ok (.iload 5, 2) := by decide +kernel
theorem dX10_writes_121 : decode cX10_writes 121 = .ok (.invokestatic 260, 3) := by decide +kernel
theorem dX10_writes_124 : decode cX10_writes 124 = .ok (.iastore, 1) := by decide +kernel
theorem dX10_writes_125 : decode cX10_writes 125 = .ok (.goto 21, 3) := by decide +kernel
theorem dX10_writes_128 : decode cX10_writes 128 = .ok (.iload 6, 2) := by decide +kernel
theorem dX10_writes_130 : decode cX10_writes 130 = .ok (.ifCond .eq 16, 3) := by decide +kernel
theorem dX10_writes_133 : decode cX10_writes 133 = .ok (.aload_n 0, 1) := by decide +kernel
theorem dX10_writes_134 : decode cX10_writes 134 = .ok (.getfield 51, 3) := by decide +kernel
theorem dX10_writes_137 : decode cX10_writes 137 = .ok (.iload_n 1, 1) := by decide +kernel
theorem dX10_writes_138 : decode cX10_writes 138 = .ok (.iinc 1 1, 3) := by decide +kernel
theorem dX10_writes_141 : decode cX10_writes 141 = .ok (.bipush 48, 2) := by decide +kernel
theorem dX10_writes_143 : decode cX10_writes 143 = .ok (.iload_n 3, 1) := by decide +kernel
theorem dX10_writes_144 : decode cX10_writes 144 = .ok (.iadd, 1) := by decide +kernel
theorem dX10_writes_145 : decode cX10_writes 145 = .ok (.iastore, 1) := by decide +kernel
theorem dX10_writes_146 : decode cX10_writes 146 = .ok (.iinc 4 1, 3) := by decide +kernel
theorem dX10_writes_149 : decode cX10_writes 149 = .ok (.goto (-128), 3) := by decide +kernel
theorem dX10_writes_152 : decode cX10_writes 152 = .ok (.iload_n 2, 1) := by decide +kernel
theorem dX10_writes_153 : decode cX10_writes 153 = .ok (.ifCond .le 14, 3) := by decide +kernel
theorem dX10_writes_156 : decode cX10_writes 156 = .ok (.aload_n 0, 1) := by decide +kernel
theorem dX10_writes_157 : decode cX10_writes 157 = .ok (.getfield 51, 3) := by decide +kernel
theorem dX10_writes_160 : decode cX10_writes 160 = .ok (.iload_n 1, 1) := by decide +kernel
theorem dX10_writes_161 : decode cX10_writes 161 = .ok (.iinc 1 1, 3) := by decide +kernel
theorem dX10_writes_164 : decode cX10_writes 164 = .ok (.bipush 47, 2) := by decide +kernel
theorem dX10_writes_166 : decode cX10_writes 166 = .ok (.iastore, 1) := by decide +kernel
theorem dX10_writes_167 : decode cX10_writes 167 = .ok (.iinc 2 (-1), 3) := by decide +kernel
theorem dX10_writes_170 : decode cX10_writes 170 = .ok (.goto (-158), 3) := by decide +kernel
theorem dX10_writes_173 : decode cX10_writes 173 = .ok (.iload_n 1, 1) := by decide +kernel
theorem dX10_writes_174 : decode cX10_writes 174 = .ok (.ireturn, 1) := by decide +kernel
