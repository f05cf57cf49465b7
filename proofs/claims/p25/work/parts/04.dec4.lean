theorem dL_isPerson_0 : decode cL_isPerson 0 = .ok (.bipush 8, 2) := by decide +kernel
theorem dL_isPerson_2 : decode cL_isPerson 2 = .ok (.iload_n 1, 1) := by decide +kernel
theorem dL_isPerson_3 : decode cL_isPerson 3 = .ok (.imul, 1) := by decide +kernel
theorem dL_isPerson_4 : decode cL_isPerson 4 = .ok (.istore 6, 2) := by decide +kernel
theorem dL_isPerson_6 : decode cL_isPerson 6 = .ok (.aload 4, 2) := by decide +kernel
theorem dL_isPerson_8 : decode cL_isPerson 8 = .ok (.iload 6, 2) := by decide +kernel
theorem dL_isPerson_10 : decode cL_isPerson 10 = .ok (.iconst 4, 1) := by decide +kernel
theorem dL_isPerson_11 : decode cL_isPerson 11 = .ok (.iadd, 1) := by decide +kernel
theorem dL_isPerson_12 : decode cL_isPerson 12 = .ok (.iaload, 1) := by decide +kernel
theorem dL_isPerson_13 : decode cL_isPerson 13 = .ok (.aload 4, 2) := by decide +kernel
theorem dL_isPerson_15 : decode cL_isPerson 15 = .ok (.iload 6, 2) := by decide +kernel
theorem dL_isPerson_17 : decode cL_isPerson 17 = .ok (.iconst 3, 1) := by decide +kernel
theorem dL_isPerson_18 : decode cL_isPerson 18 = .ok (.iadd, 1) := by decide +kernel
theorem dL_isPerson_19 : decode cL_isPerson 19 = .ok (.iaload, 1) := by decide +kernel
theorem dL_isPerson_20 : decode cL_isPerson 20 = .ok (.isub, 1) := by decide +kernel
theorem dL_isPerson_21 : decode cL_isPerson 21 = .ok (.istore 7, 2) := by decide +kernel
theorem dL_isPerson_23 : decode cL_isPerson 23 = .ok (.aload 4, 2) := by decide +kernel
theorem dL_isPerson_25 : decode cL_isPerson 25 = .ok (.iload 6, 2) := by decide +kernel
theorem dL_isPerson_27 : decode cL_isPerson 27 = .ok (.iconst 2, 1) := by decide +kernel
theorem dL_isPerson_28 : decode cL_isPerson 28 = .ok (.iadd, 1) := by decide +kernel
theorem dL_isPerson_29 : decode cL_isPerson 29 = .ok (.iaload, 1) := by decide +kernel
theorem dL_isPerson_30 : decode cL_isPerson 30 = .ok (.bipush 12, 2) := by decide +kernel
theorem dL_isPerson_32 : decode cL_isPerson 32 = .ok (.iload 7, 2) := by decide +kernel
theorem dL_isPerson_34 : decode cL_isPerson 34 = .ok (.isub, 1) := by decide +kernel
theorem dL_isPerson_35 : decode cL_isPerson 35 = .ok (.imul, 1) := by decide +kernel
theorem dL_isPerson_36 : decode cL_isPerson 36 = .ok (.istore 8, 2) := by decide +kernel
theorem dL_isPerson_38 : decode cL_isPerson 38 = .ok (.bipush 12, 2) := by decide +kernel
theorem dL_isPerson_40 : decode cL_isPerson 40 = .ok (.aload 4, 2) := by decide +kernel
theorem dL_isPerson_42 : decode cL_isPerson 42 = .ok (.iload 6, 2) := by decide +kernel
theorem dL_isPerson_44 : decode cL_isPerson 44 = .ok (.iconst 2, 1) := by decide +kernel
theorem dL_isPerson_45 : decode cL_isPerson 45 = .ok (.iadd, 1) := by decide +kernel
theorem dL_isPerson_46 : decode cL_isPerson 46 = .ok (.iaload, 1) := by decide +kernel
theorem dL_isPerson_47 : decode cL_isPerson 47 = .ok (.imul, 1) := by decide +kernel
theorem dL_isPerson_48 : decode cL_isPerson 48 = .ok (.istore 9, 2) := by decide +kernel
theorem dL_isPerson_50 : decode cL_isPerson 50 = .ok (.aload 4, 2) := by decide +kernel
theorem dL_isPerson_52 : decode cL_isPerson 52 = .ok (.iload 6, 2) := by decide +kernel
theorem dL_isPerson_54 : decode cL_isPerson 54 = .ok (.iconst 2, 1) := by decide +kernel
theorem dL_isPerson_55 : decode cL_isPerson 55 = .ok (.iadd, 1) := by decide +kernel
theorem dL_isPerson_56 : decode cL_isPerson 56 = .ok (.iaload, 1) := by decide +kernel
theorem dL_isPerson_57 : decode cL_isPerson 57 = .ok (.iload 7, 2) := by decide +kernel
theorem dL_isPerson_59 : decode cL_isPerson 59 = .ok (.imul, 1) := by decide +kernel
theorem dL_isPerson_60 : decode cL_isPerson 60 = .ok (.istore 10, 2) := by decide +kernel
theorem dL_isPerson_62 : decode cL_isPerson 62 = .ok (.iconst 1, 1) := by decide +kernel
theorem dL_isPerson_63 : decode cL_isPerson 63 = .ok (.istore 11, 2) := by decide +kernel
theorem dL_isPerson_65 : decode cL_isPerson 65 = .ok (.iconst 0, 1) := by decide +kernel
theorem dL_isPerson_66 : decode cL_isPerson 66 = .ok (.istore 12, 2) := by decide +kernel
theorem dL_isPerson_68 : decode cL_isPerson 68 = .ok (.iload 12, 2) := by decide +kernel
theorem dL_isPerson_70 : decode cL_isPerson 70 = .ok (.aload 4, 2) := by decide +kernel
theorem dL_isPerson_72 : decode cL_isPerson 72 = .ok (.iload 6, 2) := by decide +kernel
theorem dL_isPerson_74 : decode cL_isPerson 74 = .ok (.bipush 7, 2) := by decide +kernel
theorem dL_isPerson_76 : decode cL_isPerson 76 = .ok (.iadd, 1) := by decide +kernel
theorem dL_isPerson_77 : decode cL_isPerson 77 = .ok (.iaload, 1) := by decide +kernel
theorem dL_isPerson_78 : decode cL_isPerson 78 = .ok (.if_icmp .ge 89, 3) := by decide +kernel
theorem dL_isPerson_81 : decode cL_isPerson 81 = .ok (.iload 11, 2) := by decide +kernel
theorem dL_isPerson_83 : decode cL_isPerson 83 = .ok (.ifCond .eq 84, 3) := by decide +kernel
theorem dL_isPerson_86 : decode cL_isPerson 86 = .ok (.iload_n 1, 1) := by decide +kernel
theorem dL_isPerson_87 : decode cL_isPerson 87 = .ok (.iload 12, 2) := by decide +kernel
theorem dL_isPerson_89 : decode cL_isPerson 89 = .ok (.aload 4, 2) := by decide +kernel
theorem dL_isPerson_91 : decode cL_isPerson 91 = .ok (.aload 5, 2) := by decide +kernel
theorem dL_isPerson_93 : decode cL_isPerson 93 = .ok (.invokestatic 32, 3) := by decide +kernel
theorem dL_isPerson_96 : decode cL_isPerson 96 = .ok (.istore 13, 2) := by decide +kernel
theorem dL_isPerson_98 : decode cL_isPerson 98 = .ok (.iload 8, 2) := by decide +kernel
theorem dL_isPerson_100 : decode cL_isPerson 100 = .ok (.aload 5, 2) := by decide +kernel
theorem dL_isPerson_102 : decode cL_isPerson 102 = .ok (.bipush 18, 2) := by decide +kernel
theorem dL_isPerson_104 : decode cL_isPerson 104 = .ok (.iload_n 1, 1) := by decide +kernel
theorem dL_isPerson_105 : decode cL_isPerson 105 = .ok (.imul, 1) := by decide +kernel
theorem dL_isPerson_106 : decode cL_isPerson 106 = .ok (.iconst 3, 1) := by decide +kernel
theorem dL_isPerson_107 : decode cL_isPerson 107 = .ok (.iload 12, 2) := by decide +kernel
theorem dL_isPerson_109 : decode cL_isPerson 109 = .ok (.imul, 1) := by decide +kernel
theorem dL_isPerson_110 : decode cL_isPerson 110 = .ok (.iadd, 1) := by decide +kernel
theorem dL_isPerson_111 : decode cL_isPerson 111 = .ok (.iaload, 1) := by decide +kernel
theorem dL_isPerson_112 : decode cL_isPerson 112 = .ok (.iload 13, 2) := by decide +kernel
theorem dL_isPerson_114 : decode cL_isPerson 114 = .ok (.isub, 1) := by decide +kernel
theorem dL_isPerson_115 : decode cL_isPerson 115 = .ok (.iadd, 1) := by decide +kernel
theorem dL_isPerson_116 : decode cL_isPerson 116 = .ok (.istore 8, 2) := by decide +kernel
theorem dL_isPerson_118 : decode cL_isPerson 118 = .ok (.iload 9, 2) := by decide +kernel
theorem dL_isPerson_120 : decode cL_isPerson 120 = .ok (.aload 5, 2) := by decide +kernel
theorem dL_isPerson_122 : decode cL_isPerson 122 = .ok (.bipush 18, 2) := by decide +kernel
theorem dL_isPerson_124 : decode cL_isPerson 124 = .ok (.iload_n 1, 1) := by decide +kernel
theorem dL_isPerson_125 : decode cL_isPerson 125 = .ok (.imul, 1) := by decide +kernel
theorem dL_isPerson_126 : decode cL_isPerson 126 = .ok (.iconst 3, 1) := by decide +kernel
theorem dL_isPerson_127 : decode cL_isPerson 127 = .ok (.iload 12, 2) := by decide +kernel
theorem dL_isPerson_129 : decode cL_isPerson 129 = .ok (.imul, 1) := by decide +kernel
theorem dL_isPerson_130 : decode cL_isPerson 130 = .ok (.iadd, 1) := by decide +kernel
theorem dL_isPerson_131 : decode cL_isPerson 131 = .ok (.iaload, 1) := by decide +kernel
theorem dL_isPerson_132 : decode cL_isPerson 132 = .ok (.iadd, 1) := by decide +kernel
theorem dL_isPerson_133 : decode cL_isPerson 133 = .ok (.istore 9, 2) := by decide +kernel
theorem dL_isPerson_135 : decode cL_isPerson 135 = .ok (.iload 10, 2) := by decide +kernel
theorem dL_isPerson_137 : decode cL_isPerson 137 = .ok (.iload 13, 2) := by decide +kernel
theorem dL_isPerson_139 : decode cL_isPerson 139 = .ok (.iadd, 1) := by decide +kernel
theorem dL_isPerson_140 : decode cL_isPerson 140 = .ok (.istore 10, 2) := by decide +kernel
theorem dL_isPerson_142 : decode cL_isPerson 142 = .ok (.aload_n 0, 1) := by decide +kernel
theorem dL_isPerson_143 : decode cL_isPerson 143 = .ok (.iload_n 1, 1) := by decide +kernel
theorem dL_isPerson_144 : decode cL_isPerson 144 = .ok (.iload 12, 2) := by decide +kernel
theorem dL_isPerson_146 : decode cL_isPerson 146 = .ok (.invokestatic 36, 3) := by decide +kernel
theorem dL_isPerson_149 : decode cL_isPerson 149 = .ok (.iload 13, 2) := by decide +kernel
theorem dL_isPerson_151 : decode cL_isPerson 151 = .ok (.if_icmp .ne 7, 3) := by decide +kernel
theorem dL_isPerson_154 : decode cL_isPerson 154 = .ok (.iconst 1, 1) := by decide +kernel
theorem dL_isPerson_155 : decode cL_isPerson 155 = .ok (.goto 4, 3) := by decide +kernel
theorem dL_isPerson_158 : decode cL_isPerson 158 = .ok (.iconst 0, 1) := by decide +kernel
theorem dL_isPerson_159 : decode cL_isPerson 159 = .ok (.istore 11, 2) := by decide +kernel
theorem dL_isPerson_161 : decode cL_isPerson 161 = .ok (.iinc 12 1, 3) := by decide +kernel
theorem dL_isPerson_164 : decode cL_isPerson 164 = .ok (.goto (-96), 3) := by decide +kernel
theorem dL_isPerson_167 : decode cL_isPerson 167 = .ok (.iload 7, 2) := by decide +kernel
theorem dL_isPerson_169 : decode cL_isPerson 169 = .ok (.aload 4, 2) := by decide +kernel
theorem dL_isPerson_171 : decode cL_isPerson 171 = .ok (.iload 6, 2) := by decide +kernel
theorem dL_isPerson_173 : decode cL_isPerson 173 = .ok (.iconst 5, 1) := by decide +kernel
theorem dL_isPerson_174 : decode cL_isPerson 174 = .ok (.iadd, 1) := by decide +kernel
theorem dL_isPerson_175 : decode cL_isPerson 175 = .ok (.iaload, 1) := by decide +kernel
theorem dL_isPerson_176 : decode cL_isPerson 176 = .ok (.imul, 1) := by decide +kernel
theorem dL_isPerson_177 : decode cL_isPerson 177 = .ok (.iload 7, 2) := by decide +kernel
theorem dL_isPerson_179 : decode cL_isPerson 179 = .ok (.iload_n 1, 1) := by decide +kernel
theorem dL_isPerson_180 : decode cL_isPerson 180 = .ok (.aload 4, 2) := by decide +kernel
theorem dL_isPerson_182 : decode cL_isPerson 182 = .ok (.invokestatic 40, 3) := by decide +kernel
theorem dL_isPerson_185 : decode cL_isPerson 185 = .ok (.imul, 1) := by decide +kernel
theorem dL_isPerson_186 : decode cL_isPerson 186 = .ok (.isub, 1) := by decide +kernel
theorem dL_isPerson_187 : decode cL_isPerson 187 = .ok (.istore 12, 2) := by decide +kernel
theorem dL_isPerson_189 : decode cL_isPerson 189 = .ok (.aload 4, 2) := by decide +kernel
theorem dL_isPerson_191 : decode cL_isPerson 191 = .ok (.iload 6, 2) := by decide +kernel
theorem dL_isPerson_193 : decode cL_isPerson 193 = .ok (.iaload, 1) := by decide +kernel
theorem dL_isPerson_194 : decode cL_isPerson 194 = .ok (.ldc2_w 44, 3) := by decide +kernel
theorem dL_isPerson_197 : decode cL_isPerson 197 = .ok (.aload 4, 2) := by decide +kernel
theorem dL_isPerson_199 : decode cL_isPerson 199 = .ok (.iload 6, 2) := by decide +kernel
theorem dL_isPerson_201 : decode cL_isPerson 201 = .ok (.iconst 2, 1) := by decide +kernel
theorem dL_isPerson_202 : decode cL_isPerson 202 = .ok (.iadd, 1) := by decide +kernel
theorem dL_isPerson_203 : decode cL_isPerson 203 = .ok (.iaload, 1) := by decide +kernel
theorem dL_isPerson_204 : decode cL_isPerson 204 = .ok (.i2l, 1) := by decide +kernel
theorem dL_isPerson_205 : decode cL_isPerson 205 = .ok (.lmul, 1) := by decide +kernel
theorem dL_isPerson_206 : decode cL_isPerson 206 = .ok (.aload_n 3, 1) := by decide +kernel
theorem dL_isPerson_207 : decode cL_isPerson 207 = .ok (.invokestatic 26, 3) := by decide +kernel
theorem dL_isPerson_210 : decode cL_isPerson 210 = .ok (.ldc2_w 44, 3) := by decide +kernel
theorem dL_isPerson_213 : decode cL_isPerson 213 = .ok (.ldiv, 1) := by decide +kernel
theorem dL_isPerson_214 : decode cL_isPerson 214 = .ok (.lstore 13, 2) := by decide +kernel
theorem dL_isPerson_216 : decode cL_isPerson 216 = .ok (.aload 4, 2) := by decide +kernel
theorem dL_isPerson_218 : decode cL_isPerson 218 = .ok (.iload 6, 2) := by decide +kernel
theorem dL_isPerson_220 : decode cL_isPerson 220 = .ok (.iaload, 1) := by decide +kernel
theorem dL_isPerson_221 : decode cL_isPerson 221 = .ok (.iload 9, 2) := by decide +kernel
theorem dL_isPerson_223 : decode cL_isPerson 223 = .ok (.i2l, 1) := by decide +kernel
theorem dL_isPerson_224 : decode cL_isPerson 224 = .ok (.aload_n 3, 1) := by decide +kernel
theorem dL_isPerson_225 : decode cL_isPerson 225 = .ok (.invokestatic 26, 3) := by decide +kernel
theorem dL_isPerson_228 : decode cL_isPerson 228 = .ok (.lstore 15, 2) := by decide +kernel
theorem dL_isPerson_230 : decode cL_isPerson 230 = .ok (.iload 9, 2) := by decide +kernel
theorem dL_isPerson_232 : decode cL_isPerson 232 = .ok (.ifCond .le 16, 3) := by decide +kernel
theorem dL_isPerson_235 : decode cL_isPerson 235 = .ok (.lload 15, 2) := by decide +kernel
theorem dL_isPerson_237 : decode cL_isPerson 237 = .ok (.iload 8, 2) := by decide +kernel
theorem dL_isPerson_239 : decode cL_isPerson 239 = .ok (.i2l, 1) := by decide +kernel
theorem dL_isPerson_240 : decode cL_isPerson 240 = .ok (.lmul, 1) := by decide +kernel
theorem dL_isPerson_241 : decode cL_isPerson 241 = .ok (.iload 9, 2) := by decide +kernel
theorem dL_isPerson_243 : decode cL_isPerson 243 = .ok (.i2l, 1) := by decide +kernel
theorem dL_isPerson_244 : decode cL_isPerson 244 = .ok (.ldiv, 1) := by decide +kernel
theorem dL_isPerson_245 : decode cL_isPerson 245 = .ok (.goto 4, 3) := by decide +kernel
theorem dL_isPerson_248 : decode cL_isPerson 248 = .ok (.lconst 0, 1) := by decide +kernel
theorem dL_isPerson_249 : decode cL_isPerson 249 = .ok (.lstore 17, 2) := by decide +kernel
theorem dL_isPerson_251 : decode cL_isPerson 251 = .ok (.lload 13, 2) := by decide +kernel
theorem dL_isPerson_253 : decode cL_isPerson 253 = .ok (.iload 7, 2) := by decide +kernel
theorem dL_isPerson_255 : decode cL_isPerson 255 = .ok (.i2l, 1) := by decide +kernel
theorem dL_isPerson_256 : decode cL_isPerson 256 = .ok (.lmul, 1) := by decide +kernel
theorem dL_isPerson_257 : decode cL_isPerson 257 = .ok (.lload 17, 2) := by decide +kernel
theorem dL_isPerson_259 : decode cL_isPerson 259 = .ok (.ladd, 1) := by decide +kernel
theorem dL_isPerson_260 : decode cL_isPerson 260 = .ok (.lstore 19, 2) := by decide +kernel
theorem dL_isPerson_262 : decode cL_isPerson 262 = .ok (.aload 4, 2) := by decide +kernel
theorem dL_isPerson_264 : decode cL_isPerson 264 = .ok (.iload 6, 2) := by decide +kernel
theorem dL_isPerson_266 : decode cL_isPerson 266 = .ok (.iconst 1, 1) := by decide +kernel
theorem dL_isPerson_267 : decode cL_isPerson 267 = .ok (.iadd, 1) := by decide +kernel
theorem dL_isPerson_268 : decode cL_isPerson 268 = .ok (.iaload, 1) := by decide +kernel
theorem dL_isPerson_269 : decode cL_isPerson 269 = .ok (.iload 10, 2) := by decide +kernel
theorem dL_isPerson_271 : decode cL_isPerson 271 = .ok (.iload 12, 2) := by decide +kernel
theorem dL_isPerson_273 : decode cL_isPerson 273 = .ok (.iadd, 1) := by decide +kernel
theorem dL_isPerson_274 : decode cL_isPerson 274 = .ok (.i2l, 1) := by decide +kernel
theorem dL_isPerson_275 : decode cL_isPerson 275 = .ok (.aload_n 3, 1) := by decide +kernel
theorem dL_isPerson_276 : decode cL_isPerson 276 = .ok (.invokestatic 46, 3) := by decide +kernel
theorem dL_isPerson_279 : decode cL_isPerson 279 = .ok (.lstore 21, 2) := by decide +kernel
theorem dL_isPerson_281 : decode cL_isPerson 281 = .ok (.iload_n 2, 1) := by decide +kernel
theorem dL_isPerson_282 : decode cL_isPerson 282 = .ok (.bipush 12, 2) := by decide +kernel
theorem dL_isPerson_284 : decode cL_isPerson 284 = .ok (.invokestatic 49, 3) := by decide +kernel
theorem dL_isPerson_287 : decode cL_isPerson 287 = .ok (.istore 23, 2) := by decide +kernel
theorem dL_isPerson_289 : decode cL_isPerson 289 = .ok (.iload 11, 2) := by decide +kernel
theorem dL_isPerson_291 : decode cL_isPerson 291 = .ok (.ifCond .eq 126, 3) := by decide +kernel
theorem dL_isPerson_294 : decode cL_isPerson 294 = .ok (.aload_n 0, 1) := by decide +kernel
theorem dL_isPerson_295 : decode cL_isPerson 295 = .ok (.iload_n 1, 1) := by decide +kernel
theorem dL_isPerson_296 : decode cL_isPerson 296 = .ok (.aload 4, 2) := by decide +kernel
theorem dL_isPerson_298 : decode cL_isPerson 298 = .ok (.iload 6, 2) := by decide +kernel
theorem dL_isPerson_300 : decode cL_isPerson 300 = .ok (.bipush 7, 2) := by decide +kernel
theorem dL_isPerson_302 : decode cL_isPerson 302 = .ok (.iadd, 1) := by decide +kernel
theorem dL_isPerson_303 : decode cL_isPerson 303 = .ok (.iaload, 1) := by decide +kernel
theorem dL_isPerson_304 : decode cL_isPerson 304 = .ok (.invokestatic 36, 3) := by decide +kernel
theorem dL_isPerson_307 : decode cL_isPerson 307 = .ok (.bipush (-4), 2) := by decide +kernel
theorem dL_isPerson_309 : decode cL_isPerson 309 = .ok (.if_icmp .ne 108, 3) := by decide +kernel
theorem dL_isPerson_312 : decode cL_isPerson 312 = .ok (.aload_n 0, 1) := by decide +kernel
theorem dL_isPerson_313 : decode cL_isPerson 313 = .ok (.iload_n 1, 1) := by decide +kernel
theorem dL_isPerson_314 : decode cL_isPerson 314 = .ok (.iload 23, 2) := by decide +kernel
theorem dL_isPerson_316 : decode cL_isPerson 316 = .ok (.invokevirtual 52, 3) := by decide +kernel
theorem dL_isPerson_319 : decode cL_isPerson 319 = .ok (.i2l, 1) := by decide +kernel
theorem dL_isPerson_320 : decode cL_isPerson 320 = .ok (.iload 23, 2) := by decide +kernel
theorem dL_isPerson_322 : decode cL_isPerson 322 = .ok (.aload 4, 2) := by decide +kernel
theorem dL_isPerson_324 : decode cL_isPerson 324 = .ok (.iload 6, 2) := by decide +kernel
theorem dL_isPerson_326 : decode cL_isPerson 326 = .ok (.iconst 3, 1) := by decide +kernel
theorem dL_isPerson_327 : decode cL_isPerson 327 = .ok (.iadd, 1) := by decide +kernel
theorem dL_isPerson_328 : decode cL_isPerson 328 = .ok (.iaload, 1) := by decide +kernel
theorem dL_isPerson_329 : decode cL_isPerson 329 = .ok (.if_icmp .lt 20, 3) := by decide +kernel
theorem dL_isPerson_332 : decode cL_isPerson 332 = .ok (.iload 23, 2) := by decide +kernel
theorem dL_isPerson_334 : decode cL_isPerson 334 = .ok (.aload 4, 2) := by decide +kernel
theorem dL_isPerson_336 : decode cL_isPerson 336 = .ok (.iload 6, 2) := by decide +kernel
theorem dL_isPerson_338 : decode cL_isPerson 338 = .ok (.iconst 4, 1) := by decide +kernel
theorem dL_isPerson_339 : decode cL_isPerson 339 = .ok (.iadd, 1) := by decide +kernel
theorem dL_isPerson_340 : decode cL_isPerson 340 = .ok (.iaload, 1) := by decide +kernel
theorem dL_isPerson_341 : decode cL_isPerson 341 = .ok (.if_icmp .ge 8, 3) := by decide +kernel
theorem dL_isPerson_344 : decode cL_isPerson 344 = .ok (.lload 13, 2) := by decide +kernel
theorem dL_isPerson_346 : decode cL_isPerson 346 = .ok (.goto 4, 3) := by decide +kernel
theorem dL_isPerson_349 : decode cL_isPerson 349 = .ok (.lconst 0, 1) := by decide +kernel
theorem dL_isPerson_350 : decode cL_isPerson 350 = .ok (.lcmp, 1) := by decide +kernel
theorem dL_isPerson_351 : decode cL_isPerson 351 = .ok (.ifCond .ne 66, 3) := by decide +kernel
theorem dL_isPerson_354 : decode cL_isPerson 354 = .ok (.aload_n 0, 1) := by decide +kernel
theorem dL_isPerson_355 : decode cL_isPerson 355 = .ok (.iload_n 1, 1) := by decide +kernel
theorem dL_isPerson_356 : decode cL_isPerson 356 = .ok (.invokevirtual 55, 3) := by decide +kernel
theorem dL_isPerson_359 : decode cL_isPerson 359 = .ok (.i2l, 1) := by decide +kernel
theorem dL_isPerson_360 : decode cL_isPerson 360 = .ok (.lload 15, 2) := by decide +kernel
theorem dL_isPerson_362 : decode cL_isPerson 362 = .ok (.lcmp, 1) := by decide +kernel
theorem dL_isPerson_363 : decode cL_isPerson 363 = .ok (.ifCond .ne 54, 3) := by decide +kernel
theorem dL_isPerson_366 : decode cL_isPerson 366 = .ok (.aload_n 0, 1) := by decide +kernel
theorem dL_isPerson_367 : decode cL_isPerson 367 = .ok (.iload_n 1, 1) := by decide +kernel
theorem dL_isPerson_368 : decode cL_isPerson 368 = .ok (.invokevirtual 59, 3) := by decide +kernel
theorem dL_isPerson_371 : decode cL_isPerson 371 = .ok (.iload 8, 2) := by decide +kernel
theorem dL_isPerson_373 : decode cL_isPerson 373 = .ok (.if_icmp .ne 44, 3) := by decide +kernel
theorem dL_isPerson_376 : decode cL_isPerson 376 = .ok (.aload_n 0, 1) := by decide +kernel
theorem dL_isPerson_377 : decode cL_isPerson 377 = .ok (.iload_n 1, 1) := by decide +kernel
theorem dL_isPerson_378 : decode cL_isPerson 378 = .ok (.invokevirtual 62, 3) := by decide +kernel
theorem dL_isPerson_381 : decode cL_isPerson 381 = .ok (.i2l, 1) := by decide +kernel
theorem dL_isPerson_382 : decode cL_isPerson 382 = .ok (.lload 17, 2) := by decide +kernel
theorem dL_isPerson_384 : decode cL_isPerson 384 = .ok (.lcmp, 1) := by decide +kernel
theorem dL_isPerson_385 : decode cL_isPerson 385 = .ok (.ifCond .ne 32, 3) := by decide +kernel
theorem dL_isPerson_388 : decode cL_isPerson 388 = .ok (.aload_n 0, 1) := by decide +kernel
theorem dL_isPerson_389 : decode cL_isPerson 389 = .ok (.iload_n 1, 1) := by decide +kernel
theorem dL_isPerson_390 : decode cL_isPerson 390 = .ok (.invokevirtual 65, 3) := by decide +kernel
theorem dL_isPerson_393 : decode cL_isPerson 393 = .ok (.iload 10, 2) := by decide +kernel
theorem dL_isPerson_395 : decode cL_isPerson 395 = .ok (.iload 12, 2) := by decide +kernel
theorem dL_isPerson_397 : decode cL_isPerson 397 = .ok (.iadd, 1) := by decide +kernel
theorem dL_isPerson_398 : decode cL_isPerson 398 = .ok (.if_icmp .ne 19, 3) := by decide +kernel
theorem dL_isPerson_401 : decode cL_isPerson 401 = .ok (.aload_n 0, 1) := by decide +kernel
theorem dL_isPerson_402 : decode cL_isPerson 402 = .ok (.iload_n 1, 1) := by decide +kernel
theorem dL_isPerson_403 : decode cL_isPerson 403 = .ok (.invokevirtual 68, 3) := by decide +kernel
theorem dL_isPerson_406 : decode cL_isPerson 406 = .ok (.i2l, 1) := by decide +kernel
theorem dL_isPerson_407 : decode cL_isPerson 407 = .ok (.lload 21, 2) := by decide +kernel
theorem dL_isPerson_409 : decode cL_isPerson 409 = .ok (.lcmp, 1) := by decide +kernel
theorem dL_isPerson_410 : decode cL_isPerson 410 = .ok (.ifCond .ne 7, 3) := by decide +kernel
theorem dL_isPerson_413 : decode cL_isPerson 413 = .ok (.iconst 1, 1) := by decide +kernel
theorem dL_isPerson_414 : decode cL_isPerson 414 = .ok (.goto 4, 3) := by decide +kernel
theorem dL_isPerson_417 : decode cL_isPerson 417 = .ok (.iconst 0, 1) := by decide +kernel
theorem dL_isPerson_418 : decode cL_isPerson 418 = .ok (.istore 11, 2) := by decide +kernel
theorem dL_isPerson_420 : decode cL_isPerson 420 = .ok (.iload 11, 2) := by decide +kernel
theorem dL_isPerson_422 : decode cL_isPerson 422 = .ok (.ifCond .eq 63, 3) := by decide +kernel
theorem dL_isPerson_425 : decode cL_isPerson 425 = .ok (.aload_n 0, 1) := by decide +kernel
theorem dL_isPerson_426 : decode cL_isPerson 426 = .ok (.iload_n 1, 1) := by decide +kernel
theorem dL_isPerson_427 : decode cL_isPerson 427 = .ok (.invokevirtual 71, 3) := by decide +kernel
theorem dL_isPerson_430 : decode cL_isPerson 430 = .ok (.i2l, 1) := by decide +kernel
theorem dL_isPerson_431 : decode cL_isPerson 431 = .ok (.lload 19, 2) := by decide +kernel
theorem dL_isPerson_433 : decode cL_isPerson 433 = .ok (.lcmp, 1) := by decide +kernel
theorem dL_isPerson_434 : decode cL_isPerson 434 = .ok (.ifCond .ne 51, 3) := by decide +kernel
theorem dL_isPerson_437 : decode cL_isPerson 437 = .ok (.aload_n 0, 1) := by decide +kernel
theorem dL_isPerson_438 : decode cL_isPerson 438 = .ok (.iload_n 1, 1) := by decide +kernel
theorem dL_isPerson_439 : decode cL_isPerson 439 = .ok (.invokevirtual 74, 3) := by decide +kernel
theorem dL_isPerson_442 : decode cL_isPerson 442 = .ok (.i2l, 1) := by decide +kernel
theorem dL_isPerson_443 : decode cL_isPerson 443 = .ok (.lload 15, 2) := by decide +kernel
theorem dL_isPerson_445 : decode cL_isPerson 445 = .ok (.lload 19, 2) := by decide +kernel
theorem dL_isPerson_447 : decode cL_isPerson 447 = .ok (.lsub, 1) := by decide +kernel
theorem dL_isPerson_448 : decode cL_isPerson 448 = .ok (.lcmp, 1) := by decide +kernel
theorem dL_isPerson_449 : decode cL_isPerson 449 = .ok (.ifCond .ne 36, 3) := by decide +kernel
theorem dL_isPerson_452 : decode cL_isPerson 452 = .ok (.aload_n 0, 1) := by decide +kernel
theorem dL_isPerson_453 : decode cL_isPerson 453 = .ok (.iload_n 1, 1) := by decide +kernel
theorem dL_isPerson_454 : decode cL_isPerson 454 = .ok (.invokevirtual 77, 3) := by decide +kernel
theorem dL_isPerson_457 : decode cL_isPerson 457 = .ok (.i2l, 1) := by decide +kernel
theorem dL_isPerson_458 : decode cL_isPerson 458 = .ok (.lload 21, 2) := by decide +kernel
theorem dL_isPerson_460 : decode cL_isPerson 460 = .ok (.iload 12, 2) := by decide +kernel
theorem dL_isPerson_462 : decode cL_isPerson 462 = .ok (.i2l, 1) := by decide +kernel
theorem dL_isPerson_463 : decode cL_isPerson 463 = .ok (.ladd, 1) := by decide +kernel
theorem dL_isPerson_464 : decode cL_isPerson 464 = .ok (.lload 13, 2) := by decide +kernel
theorem dL_isPerson_466 : decode cL_isPerson 466 = .ok (.iload 7, 2) := by decide +kernel
theorem dL_isPerson_468 : decode cL_isPerson 468 = .ok (.i2l, 1) := by decide +kernel
theorem dL_isPerson_469 : decode cL_isPerson 469 = .ok (.lmul, 1) := by decide +kernel
theorem dL_isPerson_470 : decode cL_isPerson 470 = .ok (.lsub, 1) := by decide +kernel
theorem dL_isPerson_471 : decode cL_isPerson 471 = .ok (.lload 15, 2) := by decide +kernel
theorem dL_isPerson_473 : decode cL_isPerson 473 = .ok (.lload 19, 2) := by decide +kernel
theorem dL_isPerson_475 : decode cL_isPerson 475 = .ok (.lsub, 1) := by decide +kernel
theorem dL_isPerson_476 : decode cL_isPerson 476 = .ok (.lsub, 1) := by decide +kernel
theorem dL_isPerson_477 : decode cL_isPerson 477 = .ok (.lcmp, 1) := by decide +kernel
theorem dL_isPerson_478 : decode cL_isPerson 478 = .ok (.ifCond .ne 7, 3) := by decide +kernel
theorem dL_isPerson_481 : decode cL_isPerson 481 = .ok (.iconst 1, 1) := by decide +kernel
theorem dL_isPerson_482 : decode cL_isPerson 482 = .ok (.goto 4, 3) := by decide +kernel
theorem dL_isPerson_485 : decode cL_isPerson 485 = .ok (.iconst 0, 1) := by decide +kernel
theorem dL_isPerson_486 : decode cL_isPerson 486 = .ok (.ireturn, 1) := by decide +kernel
set_option maxRecDepth 20000 in
theorem ggL_isLand_L_low : GoodIn wsL_isLand wsL_low := goodIn_r _ [6, 7] (by decide +kernel) (by decide +kernel)
set_option maxRecDepth 20000 in
theorem gL_isLand_L_low : GoodIn wsL_isLand (va_wsS RL 49 yL_low wsL_low) := goodIn_app (goodIn_of _ (by decide +kernel)) ggL_isLand_L_low
set_option maxRecDepth 20000 in
theorem ggL_isLand_X3_tax : GoodIn wsL_isLand wsX3_tax := goodIn_ca (goodIn_r _ [12, 13, 14, 15, 16, 11, 17, 18, 19, 20, 21, 22, 23, 24, 25, 26, 27, 28, 29, 30, 31, 32, 33, 34, 35, 36, 37, 38, 39, 40, 41, 42, 43, 44, 45, 46, 47, 48, 49, 50, 51, 52, 53, 54, 55, 56, 57, 58, 59, 60, 61, 62, 63, 64, 65, 93, 94, 95, 96, 97, 98, 99, 100, 101, 102] (by decide +kernel) (by decide +kernel)) (goodIn_sub (fun _ h => List.mem_cons_of_mem _ (List.mem_append_right _ h)) (by decide +kernel))
set_option maxRecDepth 20000 in
theorem gL_isLand_X3_tax : GoodIn wsL_isLand (wsV RL 82 RX3 yX3_tax wsX3_tax) := goodIn_app (goodIn_of _ (by decide +kernel)) ggL_isLand_X3_tax
set_option maxRecDepth 20000 in
theorem ggL_isLand_L_tax : GoodIn wsL_isLand wsL_tax := goodIn_r _ [68, 69] (by decide +kernel) (by decide +kernel)
set_option maxRecDepth 20000 in
theorem gL_isLand_L_tax : GoodIn wsL_isLand (va_wsS RL 26 yL_tax wsL_tax) := goodIn_app (goodIn_of _ (by decide +kernel)) ggL_isLand_L_tax
set_option maxRecDepth 20000 in
theorem ggL_isLand_X3_grossTax : GoodIn wsL_isLand wsX3_grossTax := goodIn_ca (goodIn_r _ [73, 13, 14, 15, 16, 11, 17, 18, 19, 20, 21, 22, 23, 24, 25, 26, 27, 28, 29, 30, 31, 32, 33, 34, 35, 36, 37, 38, 39, 40, 41, 42, 43, 44, 45, 46, 47, 74, 75, 76, 51, 77, 78, 79, 80, 81, 49, 50, 52, 53, 54, 55, 56, 57, 58, 59, 60, 61, 62, 63, 64, 65, 93, 94, 95, 96, 97, 98, 99, 100, 101, 102] (by decide +kernel) (by decide +kernel)) (goodIn_sub (fun _ h => List.mem_cons_of_mem _ (List.mem_append_right _ h)) (by decide +kernel))
set_option maxRecDepth 20000 in
theorem gL_isLand_X3_grossTax : GoodIn wsL_isLand (wsV RL 84 RX3 yX3_grossTax wsX3_grossTax) := goodIn_app (goodIn_of _ (by decide +kernel)) ggL_isLand_X3_grossTax
set_option maxRecDepth 20000 in
theorem ggL_isLand_L_gross : GoodIn wsL_isLand wsL_gross := goodIn_r _ [84, 66, 67, 5, 68, 69] (by decide +kernel) (by decide +kernel)
set_option maxRecDepth 20000 in
theorem gL_isLand_L_gross : GoodIn wsL_isLand (va_wsS RL 46 yL_gross wsL_gross) := goodIn_app (goodIn_of _ (by decide +kernel)) ggL_isLand_L_gross
set_option maxRecDepth 20000 in
theorem ggL_isLand_X3_grossTaxByTrying : GoodIn wsL_isLand wsX3_grossTaxByTrying := goodIn_ca (goodIn_r _ [88, 14, 15, 16, 11, 17, 18, 19, 20, 21, 22, 23, 24, 25, 26, 27, 28, 29, 30, 31, 32, 33, 34, 35, 36, 37, 38, 39, 40, 41, 42, 43, 44, 45, 46, 47, 89, 90, 91, 51, 92, 78, 79, 80, 81, 49, 50, 52, 53, 54, 55, 56, 57, 58, 59, 60, 61, 62, 63, 64, 65, 93, 94, 95, 96, 97, 98, 99, 100, 101, 102] (by decide +kernel) (by decide +kernel)) (goodIn_sub (fun _ h => List.mem_cons_of_mem _ (List.mem_append_right _ h)) (by decide +kernel))
set_option maxRecDepth 20000 in
theorem gL_isLand_X3_grossTaxByTrying : GoodIn wsL_isLand (wsV RL 87 RX3 yX3_grossTaxByTrying wsX3_grossTaxByTrying) := goodIn_app (goodIn_of _ (by decide +kernel)) ggL_isLand_X3_grossTaxByTrying
theorem dL_isLand_0 : decode cL_isLand 0 = .ok (.iload_n 1, 1) := by decide +kernel
theorem dL_isLand_1 : decode cL_isLand 1 = .ok (.iconst 4, 1) := by decide +kernel
theorem dL_isLand_2 : decode cL_isLand 2 = .ok (.invokestatic 49, 3) := by decide +kernel
theorem dL_isLand_5 : decode cL_isLand 5 = .ok (.istore_n 3, 1) := by decide +kernel
theorem dL_isLand_6 : decode cL_isLand 6 = .ok (.iload_n 1, 1) := by decide +kernel
theorem dL_isLand_7 : decode cL_isLand 7 = .ok (.iconst 2, 1) := by decide +kernel
theorem dL_isLand_8 : decode cL_isLand 8 = .ok (.ishr, 1) := by decide +kernel
theorem dL_isLand_9 : decode cL_isLand 9 = .ok (.iload_n 1, 1) := by decide +kernel
theorem dL_isLand_10 : decode cL_isLand 10 = .ok (.bipush 14, 2) := by decide +kernel
theorem dL_isLand_12 : decode cL_isLand 12 = .ok (.ishr, 1) := by decide +kernel
theorem dL_isLand_13 : decode cL_isLand 13 = .ok (.iconst 3, 1) := by decide +kernel
theorem dL_isLand_14 : decode cL_isLand 14 = .ok (.invokestatic 49, 3) := by decide +kernel
theorem dL_isLand_17 : decode cL_isLand 17 = .ok (.ifCond .ne 8, 3) := by decide +kernel
theorem dL_isLand_20 : decode cL_isLand 20 = .ok (.ldc 80, 2) := by decide +kernel
theorem dL_isLand_22 : decode cL_isLand 22 = .ok (.goto 5, 3) := by decide +kernel
theorem dL_isLand_25 : decode cL_isLand 25 = .ok (.ldc 81, 2) := by decide +kernel
theorem dL_isLand_27 : decode cL_isLand 27 = .ok (.invokestatic 49, 3) := by decide +kernel
theorem dL_isLand_30 : decode cL_isLand 30 = .ok (.istore 4, 2) := by decide +kernel
theorem dL_isLand_32 : decode cL_isLand 32 = .ok (.aload_n 0, 1) := by decide +kernel
theorem dL_isLand_33 : decode cL_isLand 33 = .ok (.iload_n 3, 1) := by decide +kernel
theorem dL_isLand_34 : decode cL_isLand 34 = .ok (.iload 4, 2) := by decide +kernel
theorem dL_isLand_36 : decode cL_isLand 36 = .ok (.invokevirtual 82, 3) := by decide +kernel
theorem dL_isLand_39 : decode cL_isLand 39 = .ok (.i2l, 1) := by decide +kernel
theorem dL_isLand_40 : decode cL_isLand 40 = .ok (.iload_n 3, 1) := by decide +kernel
theorem dL_isLand_41 : decode cL_isLand 41 = .ok (.iload 4, 2) := by decide +kernel
theorem dL_isLand_43 : decode cL_isLand 43 = .ok (.i2l, 1) := by decide +kernel
theorem dL_isLand_44 : decode cL_isLand 44 = .ok (.aload_n 2, 1) := by decide +kernel
theorem dL_isLand_45 : decode cL_isLand 45 = .ok (.invokestatic 26, 3) := by decide +kernel
theorem dL_isLand_48 : decode cL_isLand 48 = .ok (.lcmp, 1) := by decide +kernel
theorem dL_isLand_49 : decode cL_isLand 49 = .ok (.ifCond .ne 27, 3) := by decide +kernel
theorem dL_isLand_52 : decode cL_isLand 52 = .ok (.aload_n 0, 1) := by decide +kernel
theorem dL_isLand_53 : decode cL_isLand 53 = .ok (.iload_n 3, 1) := by decide +kernel
theorem dL_isLand_54 : decode cL_isLand 54 = .ok (.iload 4, 2) := by decide +kernel
theorem dL_isLand_56 : decode cL_isLand 56 = .ok (.invokevirtual 84, 3) := by decide +kernel
theorem dL_isLand_59 : decode cL_isLand 59 = .ok (.i2l, 1) := by decide +kernel
theorem dL_isLand_60 : decode cL_isLand 60 = .ok (.iload_n 3, 1) := by decide +kernel
theorem dL_isLand_61 : decode cL_isLand 61 = .ok (.iload 4, 2) := by decide +kernel
theorem dL_isLand_63 : decode cL_isLand 63 = .ok (.i2l, 1) := by decide +kernel
theorem dL_isLand_64 : decode cL_isLand 64 = .ok (.aload_n 2, 1) := by decide +kernel
theorem dL_isLand_65 : decode cL_isLand 65 = .ok (.invokestatic 46, 3) := by decide +kernel
theorem dL_isLand_68 : decode cL_isLand 68 = .ok (.lcmp, 1) := by decide +kernel
theorem dL_isLand_69 : decode cL_isLand 69 = .ok (.ifCond .ne 7, 3) := by decide +kernel
theorem dL_isLand_72 : decode cL_isLand 72 = .ok (.iconst 1, 1) := by decide +kernel
theorem dL_isLand_73 : decode cL_isLand 73 = .ok (.goto 4, 3) := by decide +kernel
theorem dL_isLand_76 : decode cL_isLand 76 = .ok (.iconst 0, 1) := by decide +kernel
theorem dL_isLand_77 : decode cL_isLand 77 = .ok (.istore 5, 2) := by decide +kernel
theorem dL_isLand_79 : decode cL_isLand 79 = .ok (.iload_n 1, 1) := by decide +kernel
theorem dL_isLand_80 : decode cL_isLand 80 = .ok (.iconst 3, 1) := by decide +kernel
theorem dL_isLand_81 : decode cL_isLand 81 = .ok (.ishr, 1) := by decide +kernel
theorem dL_isLand_82 : decode cL_isLand 82 = .ok (.sipush 20001, 3) := by decide +kernel
theorem dL_isLand_85 : decode cL_isLand 85 = .ok (.invokestatic 49, 3) := by decide +kernel
theorem dL_isLand_88 : decode cL_isLand 88 = .ok (.istore 6, 2) := by decide +kernel
theorem dL_isLand_90 : decode cL_isLand 90 = .ok (.iload 5, 2) := by decide +kernel
theorem dL_isLand_92 : decode cL_isLand 92 = .ok (.ifCond .eq 38, 3) := by decide +kernel
theorem dL_isLand_95 : decode cL_isLand 95 = .ok (.iload_n 1, 1) := by decide +kernel
theorem dL_isLand_96 : decode cL_isLand 96 = .ok (.iconst 5, 1) := by decide +kernel
theorem dL_isLand_97 : decode cL_isLand 97 = .ok (.ishr, 1) := by decide +kernel
theorem dL_isLand_98 : decode cL_isLand 98 = .ok (.bipush 6, 2) := by decide +kernel
theorem dL_isLand_100 : decode cL_isLand 100 = .ok (.invokestatic 49, 3) := by decide +kernel
theorem dL_isLand_103 : decode cL_isLand 103 = .ok (.ifCond .gt 23, 3) := by decide +kernel
theorem dL_isLand_106 : decode cL_isLand 106 = .ok (.aload_n 0, 1) := by decide +kernel
theorem dL_isLand_107 : decode cL_isLand 107 = .ok (.iload_n 3, 1) := by decide +kernel
theorem dL_isLand_108 : decode cL_isLand 108 = .ok (.iload 6, 2) := by decide +kernel
theorem dL_isLand_110 : decode cL_isLand 110 = .ok (.invokevirtual 87, 3) := by decide +kernel
theorem dL_isLand_113 : decode cL_isLand 113 = .ok (.i2l, 1) := by decide +kernel
theorem dL_isLand_114 : decode cL_isLand 114 = .ok (.iload_n 3, 1) := by decide +kernel
theorem dL_isLand_115 : decode cL_isLand 115 = .ok (.iload 6, 2) := by decide +kernel
theorem dL_isLand_117 : decode cL_isLand 117 = .ok (.i2l, 1) := by decide +kernel
theorem dL_isLand_118 : decode cL_isLand 118 = .ok (.aload_n 2, 1) := by decide +kernel
theorem dL_isLand_119 : decode cL_isLand 119 = .ok (.invokestatic 46, 3) := by decide +kernel
theorem dL_isLand_122 : decode cL_isLand 122 = .ok (.lcmp, 1) := by decide +kernel
theorem dL_isLand_123 : decode cL_isLand 123 = .ok (.ifCond .ne 7, 3) := by decide +kernel
theorem dL_isLand_126 : decode cL_isLand 126 = .ok (.iconst 1, 1) := by decide +kernel
theorem dL_isLand_127 : decode cL_isLand 127 = .ok (.goto 4, 3) := by decide +kernel
theorem dL_isLand_130 : decode cL_isLand 130 = .ok (.iconst 0, 1) := by decide +kernel
theorem dL_isLand_131 : decode cL_isLand 131 = .ok (.ireturn, 1) := by decide +kernel
set_option maxRecDepth 20000 in
theorem ggL_lands_L_low : GoodIn wsL_lands wsL_low := goodIn_r _ [7, 8] (by decide +kernel) (by decide +kernel)
set_option maxRecDepth 20000 in
theorem gL_lands_L_low : GoodIn wsL_lands (va_wsS RL 49 yL_low wsL_low) := goodIn_app (goodIn_of _ (by decide +kernel)) ggL_lands_L_low
set_option maxRecDepth 20000 in
theorem ggL_lands_X3_setLimits : GoodIn wsL_lands wsX3_setLimits := goodIn_ca (goodIn_r _ [13, 14, 15, 16, 17, 12, 18, 19, 20, 21, 22, 23, 24, 25, 26, 27, 28, 29, 30, 31, 32, 33, 34, 35, 36, 37, 38, 39, 40, 41, 42, 43, 44, 45, 46, 47, 48, 49, 50, 51, 52, 53, 54, 55, 67, 68, 69, 70, 71, 72, 73, 74, 75, 76] (by decide +kernel) (by decide +kernel)) (goodIn_sub (fun _ h => List.mem_cons_of_mem _ (List.mem_append_right _ h)) (by decide +kernel))
set_option maxRecDepth 20000 in
theorem gL_lands_X3_setLimits : GoodIn wsL_lands (wsV RL 93 RX3 yX3_setLimits wsX3_setLimits) := goodIn_app (goodIn_of _ (by decide +kernel)) ggL_lands_X3_setLimits
set_option maxRecDepth 20000 in
theorem ggL_lands_X3_setRates : GoodIn wsL_lands wsX3_setRates := goodIn_ca (goodIn_r _ [59, 15, 16, 17, 12, 18, 19, 20, 21, 22, 23, 24, 25, 26, 27, 28, 29, 30, 31, 32, 33, 34, 35, 36, 37, 38, 39, 40, 41, 42, 43, 44, 45, 46, 47, 48, 60, 61, 62, 52, 63, 64, 65, 66, 67, 68, 69, 70, 71, 72, 73, 74, 75, 76] (by decide +kernel) (by decide +kernel)) (goodIn_sub (fun _ h => List.mem_cons_of_mem _ (List.mem_append_right _ h)) (by decide +kernel))
set_option maxRecDepth 20000 in
theorem gL_lands_X3_setRates : GoodIn wsL_lands (wsV RL 97 RX3 yX3_setRates wsX3_setRates) := goodIn_app (goodIn_of _ (by decide +kernel)) ggL_lands_X3_setRates
theorem dL_lands_0 : decode cL_lands 0 = .ok (.iconst 5, 1) := by decide +kernel
theorem dL_lands_1 : decode cL_lands 1 = .ok (.iload_n 1, 1) := by decide +kernel
theorem dL_lands_2 : decode cL_lands 2 = .ok (.iconst 4, 1) := by decide +kernel
theorem dL_lands_3 : decode cL_lands 3 = .ok (.invokestatic 49, 3) := by decide +kernel
theorem dL_lands_6 : decode cL_lands 6 = .ok (.imul, 1) := by decide +kernel
theorem dL_lands_7 : decode cL_lands 7 = .ok (.istore_n 3, 1) := by decide +kernel
theorem dL_lands_8 : decode cL_lands 8 = .ok (.iload_n 1, 1) := by decide +kernel
theorem dL_lands_9 : decode cL_lands 9 = .ok (.iconst 2, 1) := by decide +kernel
theorem dL_lands_10 : decode cL_lands 10 = .ok (.ishr, 1) := by decide +kernel
theorem dL_lands_11 : decode cL_lands 11 = .ok (.iconst 2, 1) := by decide +kernel
theorem dL_lands_12 : decode cL_lands 12 = .ok (.invokestatic 49, 3) := by decide +kernel
theorem dL_lands_15 : decode cL_lands 15 = .ok (.ifCond .ne 101, 3) := by decide +kernel
theorem dL_lands_18 : decode cL_lands 18 = .ok (.aload_n 2, 1) := by decide +kernel
theorem dL_lands_19 : decode cL_lands 19 = .ok (.iload_n 3, 1) := by decide +kernel
theorem dL_lands_20 : decode cL_lands 20 = .ok (.iload_n 1, 1) := by decide +kernel
theorem dL_lands_21 : decode cL_lands 21 = .ok (.iconst 4, 1) := by decide +kernel
theorem dL_lands_22 : decode cL_lands 22 = .ok (.ishr, 1) := by decide +kernel
theorem dL_lands_23 : decode cL_lands 23 = .ok (.iload_n 1, 1) := by decide +kernel
theorem dL_lands_24 : decode cL_lands 24 = .ok (.bipush 13, 2) := by decide +kernel
theorem dL_lands_26 : decode cL_lands 26 = .ok (.ishr, 1) := by decide +kernel
theorem dL_lands_27 : decode cL_lands 27 = .ok (.iconst 3, 1) := by decide +kernel
theorem dL_lands_28 : decode cL_lands 28 = .ok (.invokestatic 49, 3) := by decide +kernel
theorem dL_lands_31 : decode cL_lands 31 = .ok (.ifCond .ne 8, 3) := by decide +kernel
theorem dL_lands_34 : decode cL_lands 34 = .ok (.ldc 90, 2) := by decide +kernel
theorem dL_lands_36 : decode cL_lands 36 = .ok (.goto 5, 3) := by decide +kernel
theorem dL_lands_39 : decode cL_lands 39 = .ok (.ldc 91, 2) := by decide +kernel
theorem dL_lands_41 : decode cL_lands 41 = .ok (.invokestatic 49, 3) := by decide +kernel
theorem dL_lands_44 : decode cL_lands 44 = .ok (.iastore, 1) := by decide +kernel
theorem dL_lands_45 : decode cL_lands 45 = .ok (.aload_n 2, 1) := by decide +kernel
theorem dL_lands_46 : decode cL_lands 46 = .ok (.iload_n 3, 1) := by decide +kernel
theorem dL_lands_47 : decode cL_lands 47 = .ok (.iconst 1, 1) := by decide +kernel
theorem dL_lands_48 : decode cL_lands 48 = .ok (.iadd, 1) := by decide +kernel
theorem dL_lands_49 : decode cL_lands 49 = .ok (.aload_n 2, 1) := by decide +kernel
theorem dL_lands_50 : decode cL_lands 50 = .ok (.iload_n 3, 1) := by decide +kernel
theorem dL_lands_51 : decode cL_lands 51 = .ok (.iaload, 1) := by decide +kernel
theorem dL_lands_52 : decode cL_lands 52 = .ok (.iload_n 1, 1) := by decide +kernel
theorem dL_lands_53 : decode cL_lands 53 = .ok (.bipush 6, 2) := by decide +kernel
theorem dL_lands_55 : decode cL_lands 55 = .ok (.ishr, 1) := by decide +kernel
theorem dL_lands_56 : decode cL_lands 56 = .ok (.iload_n 1, 1) := by decide +kernel
theorem dL_lands_57 : decode cL_lands 57 = .ok (.bipush 12, 2) := by decide +kernel
theorem dL_lands_59 : decode cL_lands 59 = .ok (.ishr, 1) := by decide +kernel
theorem dL_lands_60 : decode cL_lands 60 = .ok (.iconst 3, 1) := by decide +kernel
theorem dL_lands_61 : decode cL_lands 61 = .ok (.invokestatic 49, 3) := by decide +kernel
theorem dL_lands_64 : decode cL_lands 64 = .ok (.ifCond .ne 12, 3) := by decide +kernel
theorem dL_lands_67 : decode cL_lands 67 = .ok (.ldc 90, 2) := by decide +kernel
theorem dL_lands_69 : decode cL_lands 69 = .ok (.aload_n 2, 1) := by decide +kernel
theorem dL_lands_70 : decode cL_lands 70 = .ok (.iload_n 3, 1) := by decide +kernel
theorem dL_lands_71 : decode cL_lands 71 = .ok (.iaload, 1) := by decide +kernel
theorem dL_lands_72 : decode cL_lands 72 = .ok (.isub, 1) := by decide +kernel
theorem dL_lands_73 : decode cL_lands 73 = .ok (.goto 20, 3) := by decide +kernel
theorem dL_lands_76 : decode cL_lands 76 = .ok (.ldc 90, 2) := by decide +kernel
theorem dL_lands_78 : decode cL_lands 78 = .ok (.aload_n 2, 1) := by decide +kernel
theorem dL_lands_79 : decode cL_lands 79 = .ok (.iload_n 3, 1) := by decide +kernel
theorem dL_lands_80 : decode cL_lands 80 = .ok (.iaload, 1) := by decide +kernel
theorem dL_lands_81 : decode cL_lands 81 = .ok (.isub, 1) := by decide +kernel
theorem dL_lands_82 : decode cL_lands 82 = .ok (.ldc 92, 2) := by decide +kernel
theorem dL_lands_84 : decode cL_lands 84 = .ok (.if_icmp .ge 7, 3) := by decide +kernel
theorem dL_lands_87 : decode cL_lands 87 = .ok (.iconst 1, 1) := by decide +kernel
theorem dL_lands_88 : decode cL_lands 88 = .ok (.goto 5, 3) := by decide +kernel
theorem dL_lands_91 : decode cL_lands 91 = .ok (.ldc 92, 2) := by decide +kernel
theorem dL_lands_93 : decode cL_lands 93 = .ok (.invokestatic 49, 3) := by decide +kernel
theorem dL_lands_96 : decode cL_lands 96 = .ok (.iadd, 1) := by decide +kernel
theorem dL_lands_97 : decode cL_lands 97 = .ok (.iastore, 1) := by decide +kernel
theorem dL_lands_98 : decode cL_lands 98 = .ok (.aload_n 0, 1) := by decide +kernel
theorem dL_lands_99 : decode cL_lands 99 = .ok (.iload_n 3, 1) := by decide +kernel
theorem dL_lands_100 : decode cL_lands 100 = .ok (.iconst 5, 1) := by decide +kernel
theorem dL_lands_101 : decode cL_lands 101 = .ok (.idiv, 1) := by decide +kernel
theorem dL_lands_102 : decode cL_lands 102 = .ok (.aload_n 2, 1) := by decide +kernel
theorem dL_lands_103 : decode cL_lands 103 = .ok (.iload_n 3, 1) := by decide +kernel
theorem dL_lands_104 : decode cL_lands 104 = .ok (.iaload, 1) := by decide +kernel
theorem dL_lands_105 : decode cL_lands 105 = .ok (.aload_n 2, 1) := by decide +kernel
theorem dL_lands_106 : decode cL_lands 106 = .ok (.iload_n 3, 1) := by decide +kernel
theorem dL_lands_107 : decode cL_lands 107 = .ok (.iconst 1, 1) := by decide +kernel
theorem dL_lands_108 : decode cL_lands 108 = .ok (.iadd, 1) := by decide +kernel
theorem dL_lands_109 : decode cL_lands 109 = .ok (.iaload, 1) := by decide +kernel
theorem dL_lands_110 : decode cL_lands 110 = .ok (.invokevirtual 93, 3) := by decide +kernel
theorem dL_lands_113 : decode cL_lands 113 = .ok (.goto 66, 3) := by decide +kernel
theorem dL_lands_116 : decode cL_lands 116 = .ok (.aload_n 2, 1) := by decide +kernel
theorem dL_lands_117 : decode cL_lands 117 = .ok (.iload_n 3, 1) := by decide +kernel
theorem dL_lands_118 : decode cL_lands 118 = .ok (.iconst 2, 1) := by decide +kernel
theorem dL_lands_119 : decode cL_lands 119 = .ok (.iadd, 1) := by decide +kernel
theorem dL_lands_120 : decode cL_lands 120 = .ok (.iload_n 1, 1) := by decide +kernel
theorem dL_lands_121 : decode cL_lands 121 = .ok (.iconst 4, 1) := by decide +kernel
theorem dL_lands_122 : decode cL_lands 122 = .ok (.ishr, 1) := by decide +kernel
theorem dL_lands_123 : decode cL_lands 123 = .ok (.bipush 61, 2) := by decide +kernel
theorem dL_lands_125 : decode cL_lands 125 = .ok (.invokestatic 49, 3) := by decide +kernel
theorem dL_lands_128 : decode cL_lands 128 = .ok (.iastore, 1) := by decide +kernel
theorem dL_lands_129 : decode cL_lands 129 = .ok (.aload_n 2, 1) := by decide +kernel
theorem dL_lands_130 : decode cL_lands 130 = .ok (.iload_n 3, 1) := by decide +kernel
theorem dL_lands_131 : decode cL_lands 131 = .ok (.iconst 3, 1) := by decide +kernel
theorem dL_lands_132 : decode cL_lands 132 = .ok (.iadd, 1) := by decide +kernel
theorem dL_lands_133 : decode cL_lands 133 = .ok (.iload_n 1, 1) := by decide +kernel
theorem dL_lands_134 : decode cL_lands 134 = .ok (.bipush 6, 2) := by decide +kernel
theorem dL_lands_136 : decode cL_lands 136 = .ok (.ishr, 1) := by decide +kernel
theorem dL_lands_137 : decode cL_lands 137 = .ok (.bipush 61, 2) := by decide +kernel
theorem dL_lands_139 : decode cL_lands 139 = .ok (.invokestatic 49, 3) := by decide +kernel
theorem dL_lands_142 : decode cL_lands 142 = .ok (.iastore, 1) := by decide +kernel
theorem dL_lands_143 : decode cL_lands 143 = .ok (.aload_n 2, 1) := by decide +kernel
theorem dL_lands_144 : decode cL_lands 144 = .ok (.iload_n 3, 1) := by decide +kernel
theorem dL_lands_145 : decode cL_lands 145 = .ok (.iconst 4, 1) := by decide +kernel
theorem dL_lands_146 : decode cL_lands 146 = .ok (.iadd, 1) := by decide +kernel
theorem dL_lands_147 : decode cL_lands 147 = .ok (.iload_n 1, 1) := by decide +kernel
theorem dL_lands_148 : decode cL_lands 148 = .ok (.bipush 8, 2) := by decide +kernel
theorem dL_lands_150 : decode cL_lands 150 = .ok (.ishr, 1) := by decide +kernel
theorem dL_lands_151 : decode cL_lands 151 = .ok (.bipush 61, 2) := by decide +kernel
theorem dL_lands_153 : decode cL_lands 153 = .ok (.invokestatic 49, 3) := by decide +kernel
theorem dL_lands_156 : decode cL_lands 156 = .ok (.iastore, 1) := by decide +kernel
theorem dL_lands_157 : decode cL_lands 157 = .ok (.aload_n 0, 1) := by decide +kernel
theorem dL_lands_158 : decode cL_lands 158 = .ok (.iload_n 3, 1) := by decide +kernel
theorem dL_lands_159 : decode cL_lands 159 = .ok (.iconst 5, 1) := by decide +kernel
theorem dL_lands_160 : decode cL_lands 160 = .ok (.idiv, 1) := by decide +kernel
theorem dL_lands_161 : decode cL_lands 161 = .ok (.aload_n 2, 1) := by decide +kernel
theorem dL_lands_162 : decode cL_lands 162 = .ok (.iload_n 3, 1) := by decide +kernel
theorem dL_lands_163 : decode cL_lands 163 = .ok (.iconst 2, 1) := by decide +kernel
theorem dL_lands_164 : decode cL_lands 164 = .ok (.iadd, 1) := by decide +kernel
theorem dL_lands_165 : decode cL_lands 165 = .ok (.iaload, 1) := by decide +kernel
theorem dL_lands_166 : decode cL_lands 166 = .ok (.aload_n 2, 1) := by decide +kernel
theorem dL_lands_167 : decode cL_lands 167 = .ok (.iload_n 3, 1) := by decide +kernel
theorem dL_lands_168 : decode cL_lands 168 = .ok (.iconst 3, 1) := by decide +kernel
theorem dL_lands_169 : decode cL_lands 169 = .ok (.iadd, 1) := by decide +kernel
theorem dL_lands_170 : decode cL_lands 170 = .ok (.iaload, 1) := by decide +kernel
theorem dL_lands_171 : decode cL_lands 171 = .ok (.aload_n 2, 1) := by decide +kernel
theorem dL_lands_172 : decode cL_lands 172 = .ok (.iload_n 3, 1) := by decide +kernel
theorem dL_lands_173 : decode cL_lands 173 = .ok (.iconst 4, 1) := by decide +kernel
theorem dL_lands_174 : decode cL_lands 174 = .ok (.iadd, 1) := by decide +kernel
theorem dL_lands_175 : decode cL_lands 175 = .ok (.iaload, 1) := by decide +kernel
theorem dL_lands_176 : decode cL_lands 176 = .ok (.invokevirtual 97, 3) := by decide +kernel
theorem dL_lands_179 : decode cL_lands 179 = .ok (.iconst 1, 1) := by decide +kernel
theorem dL_lands_180 : decode cL_lands 180 = .ok (.ireturn, 1) := by decide +kernel
set_option maxRecDepth 20000 in
theorem ggL_person_L_low : GoodIn wsL_person wsL_low := goodIn_r _ [7, 8] (by decide +kernel) (by decide +kernel)
set_option maxRecDepth 20000 in
theorem gL_person_L_low : GoodIn wsL_person (va_wsS RL 49 yL_low wsL_low) := goodIn_app (goodIn_of _ (by decide +kernel)) ggL_person_L_low
set_option maxRecDepth 20000 in
theorem ggL_person_X3_setAbroad : GoodIn wsL_person wsX3_setAbroad := goodIn_ca (goodIn_ca (goodIn_r _ [13, 14, 15, 16, 12, 17, 18, 19, 20, 21, 22, 23, 24, 25, 26, 27, 28, 29, 30, 31, 32, 33, 34, 35, 36, 37, 38, 39, 40, 41, 42, 43, 44, 45, 46, 47, 48, 49, 50, 51, 52, 53, 54, 55, 56, 154, 155, 156, 157, 158, 159, 160, 161, 162, 163, 164, 165, 166] (by decide +kernel) (by decide +kernel)) (goodIn_sub (fun _ h => List.mem_cons_of_mem _ (List.mem_append_left _ (List.mem_append_left _ (List.mem_append_right _ h)))) (by decide +kernel))) (goodIn_sub (fun _ h => List.mem_cons_of_mem _ (List.mem_append_left _ (List.mem_append_right _ h))) (by decide +kernel))
set_option maxRecDepth 20000 in
theorem gL_person_X3_setAbroad : GoodIn wsL_person (wsV RL 101 RX3 yX3_setAbroad wsX3_setAbroad) := goodIn_app (goodIn_of _ (by decide +kernel)) ggL_person_X3_setAbroad
set_option maxRecDepth 20000 in
theorem ggL_person_X3_setPay : GoodIn wsL_person wsX3_setPay := goodIn_ca (goodIn_ca (goodIn_r _ [60, 61, 14, 15, 16, 12, 17, 18, 19, 20, 21, 22, 23, 24, 25, 26, 27, 28, 29, 30, 31, 32, 33, 34, 35, 36, 37, 38, 39, 40, 41, 42, 43, 44, 45, 46, 47, 48, 49, 154, 155, 156, 157, 158, 159, 160, 161, 162, 163, 164, 165, 166] (by decide +kernel) (by decide +kernel)) (goodIn_sub (fun _ h => List.mem_cons_of_mem _ (List.mem_append_left _ (List.mem_append_left _ (List.mem_append_right _ h)))) (by decide +kernel))) (goodIn_sub (fun _ h => List.mem_cons_of_mem _ (List.mem_append_left _ (List.mem_append_right _ h))) (by decide +kernel))
set_option maxRecDepth 20000 in
theorem gL_person_X3_setPay : GoodIn wsL_person (wsV RL 106 RX3 yX3_setPay wsX3_setPay) := goodIn_app (goodIn_of _ (by decide +kernel)) ggL_person_X3_setPay
set_option maxRecDepth 20000 in
theorem ggL_person_X3_setHousing : GoodIn wsL_person wsX3_setHousing := goodIn_ca (goodIn_ca (goodIn_r _ [65, 66, 14, 15, 16, 12, 17, 18, 19, 20, 21, 22, 23, 24, 25, 26, 27, 28, 29, 30, 31, 32, 33, 34, 35, 36, 37, 38, 39, 40, 41, 42, 43, 44, 45, 46, 47, 48, 49, 67, 68, 69, 53, 70, 71, 72, 73, 74, 75, 76, 77, 154, 155, 156, 157, 158, 159, 160, 161, 162, 163, 164, 165, 166] (by decide +kernel) (by decide +kernel)) (goodIn_sub (fun _ h => List.mem_cons_of_mem _ (List.mem_append_left _ (List.mem_append_left _ (List.mem_append_right _ h)))) (by decide +kernel))) (goodIn_sub (fun _ h => List.mem_cons_of_mem _ (List.mem_append_left _ (List.mem_append_right _ h))) (by decide +kernel))
set_option maxRecDepth 20000 in
theorem gL_person_X3_setHousing : GoodIn wsL_person (wsV RL 110 RX3 yX3_setHousing wsX3_setHousing) := goodIn_app (goodIn_of _ (by decide +kernel)) ggL_person_X3_setHousing
set_option maxRecDepth 20000 in
theorem ggL_person_L_own : GoodIn wsL_person wsL_own := goodIn_r _ [80] (by decide +kernel) (by decide +kernel)
set_option maxRecDepth 20000 in
theorem gL_person_L_own : GoodIn wsL_person (va_wsS RL 40 yL_own wsL_own) := goodIn_app (goodIn_of _ (by decide +kernel)) ggL_person_L_own
set_option maxRecDepth 20000 in
theorem ggL_person_L_bonus : GoodIn wsL_person wsL_bonus := goodIn_ca (goodIn_ca (goodIn_ca (goodIn_r _ [83, 84, 85, 86, 87, 12, 88, 89, 90, 91, 92, 93, 94, 14, 15, 16, 17, 18, 19, 20, 21, 22, 23, 24, 25, 26, 27, 28, 29, 30, 31, 32, 33, 34, 35, 36, 37, 38, 39, 40, 41, 42, 43, 44, 45, 46, 47, 48, 49, 95, 96, 97, 98, 99, 100, 101, 102, 103, 104, 105, 106, 107, 108, 109, 110, 111, 112, 113, 114, 115, 116, 117, 118, 119, 120, 121, 122, 123, 124, 76, 125, 126, 127, 128, 129, 130, 131, 132, 133, 134, 135, 136, 137, 138, 139, 140, 141, 142, 143, 144, 145, 146, 147, 148, 149, 75, 77, 150, 151, 152, 153, 154, 155, 156, 157, 158, 159, 160, 161, 167, 168, 169, 162, 163, 164, 165, 166] (by decide +kernel) (by decide +kernel)) (goodIn_sub (fun _ h => List.mem_cons_of_mem _ (List.mem_append_right _ h)) (by decide +kernel))) (goodIn_sub (fun _ h => List.mem_cons_of_mem _ (List.mem_append_left _ (List.mem_append_left _ (List.mem_append_right _ h)))) (by decide +kernel))) (goodIn_sub (fun _ h => List.mem_cons_of_mem _ (List.mem_append_left _ (List.mem_append_right _ h))) (by decide +kernel))
set_option maxRecDepth 20000 in
theorem gL_person_L_bonus : GoodIn wsL_person (va_wsS RL 114 yL_bonus wsL_bonus) := goodIn_app (goodIn_of _ (by decide +kernel)) ggL_person_L_bonus
theorem dL_person_0 : decode cL_person 0 = .ok (.bipush 8, 2) := by decide +kernel
theorem dL_person_2 : decode cL_person 2 = .ok (.iload_n 2, 1) := by decide +kernel
theorem dL_person_3 : decode cL_person 3 = .ok (.imul, 1) := by decide +kernel
theorem dL_person_4 : decode cL_person 4 = .ok (.istore 6, 2) := by decide +kernel
theorem dL_person_6 : decode cL_person 6 = .ok (.iload_n 1, 1) := by decide +kernel
