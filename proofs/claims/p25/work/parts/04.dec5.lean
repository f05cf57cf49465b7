theorem dL_person_7 : decode cL_person 7 = .ok (.ifCond .ne 94, 3) := by decide +kernel
theorem dL_person_10 : decode cL_person 10 = .ok (.aload 4, 2) := by decide +kernel
theorem dL_person_12 : decode cL_person 12 = .ok (.iload 6, 2) := by decide +kernel
theorem dL_person_14 : decode cL_person 14 = .ok (.iconst 4, 1) := by decide +kernel
theorem dL_person_15 : decode cL_person 15 = .ok (.iadd, 1) := by decide +kernel
theorem dL_person_16 : decode cL_person 16 = .ok (.iaload, 1) := by decide +kernel
theorem dL_person_17 : decode cL_person 17 = .ok (.aload 4, 2) := by decide +kernel
theorem dL_person_19 : decode cL_person 19 = .ok (.iload 6, 2) := by decide +kernel
theorem dL_person_21 : decode cL_person 21 = .ok (.iconst 3, 1) := by decide +kernel
theorem dL_person_22 : decode cL_person 22 = .ok (.iadd, 1) := by decide +kernel
theorem dL_person_23 : decode cL_person 23 = .ok (.iaload, 1) := by decide +kernel
theorem dL_person_24 : decode cL_person 24 = .ok (.isub, 1) := by decide +kernel
theorem dL_person_25 : decode cL_person 25 = .ok (.istore 7, 2) := by decide +kernel
theorem dL_person_27 : decode cL_person 27 = .ok (.aload 4, 2) := by decide +kernel
theorem dL_person_29 : decode cL_person 29 = .ok (.iload 6, 2) := by decide +kernel
theorem dL_person_31 : decode cL_person 31 = .ok (.iconst 3, 1) := by decide +kernel
theorem dL_person_32 : decode cL_person 32 = .ok (.iadd, 1) := by decide +kernel
theorem dL_person_33 : decode cL_person 33 = .ok (.iload_n 3, 1) := by decide +kernel
theorem dL_person_34 : decode cL_person 34 = .ok (.bipush 13, 2) := by decide +kernel
theorem dL_person_36 : decode cL_person 36 = .ok (.invokestatic 49, 3) := by decide +kernel
theorem dL_person_39 : decode cL_person 39 = .ok (.iastore, 1) := by decide +kernel
theorem dL_person_40 : decode cL_person 40 = .ok (.aload 4, 2) := by decide +kernel
theorem dL_person_42 : decode cL_person 42 = .ok (.iload 6, 2) := by decide +kernel
theorem dL_person_44 : decode cL_person 44 = .ok (.iconst 4, 1) := by decide +kernel
theorem dL_person_45 : decode cL_person 45 = .ok (.iadd, 1) := by decide +kernel
theorem dL_person_46 : decode cL_person 46 = .ok (.aload 4, 2) := by decide +kernel
theorem dL_person_48 : decode cL_person 48 = .ok (.iload 6, 2) := by decide +kernel
theorem dL_person_50 : decode cL_person 50 = .ok (.iconst 3, 1) := by decide +kernel
theorem dL_person_51 : decode cL_person 51 = .ok (.iadd, 1) := by decide +kernel
theorem dL_person_52 : decode cL_person 52 = .ok (.iaload, 1) := by decide +kernel
theorem dL_person_53 : decode cL_person 53 = .ok (.iload_n 3, 1) := by decide +kernel
theorem dL_person_54 : decode cL_person 54 = .ok (.iconst 4, 1) := by decide +kernel
theorem dL_person_55 : decode cL_person 55 = .ok (.ishr, 1) := by decide +kernel
theorem dL_person_56 : decode cL_person 56 = .ok (.bipush 13, 2) := by decide +kernel
theorem dL_person_58 : decode cL_person 58 = .ok (.aload 4, 2) := by decide +kernel
theorem dL_person_60 : decode cL_person 60 = .ok (.iload 6, 2) := by decide +kernel
theorem dL_person_62 : decode cL_person 62 = .ok (.iconst 3, 1) := by decide +kernel
theorem dL_person_63 : decode cL_person 63 = .ok (.iadd, 1) := by decide +kernel
theorem dL_person_64 : decode cL_person 64 = .ok (.iaload, 1) := by decide +kernel
theorem dL_person_65 : decode cL_person 65 = .ok (.isub, 1) := by decide +kernel
theorem dL_person_66 : decode cL_person 66 = .ok (.invokestatic 49, 3) := by decide +kernel
theorem dL_person_69 : decode cL_person 69 = .ok (.iadd, 1) := by decide +kernel
theorem dL_person_70 : decode cL_person 70 = .ok (.iastore, 1) := by decide +kernel
theorem dL_person_71 : decode cL_person 71 = .ok (.aload_n 0, 1) := by decide +kernel
theorem dL_person_72 : decode cL_person 72 = .ok (.iload_n 2, 1) := by decide +kernel
theorem dL_person_73 : decode cL_person 73 = .ok (.aload 4, 2) := by decide +kernel
theorem dL_person_75 : decode cL_person 75 = .ok (.iload 6, 2) := by decide +kernel
theorem dL_person_77 : decode cL_person 77 = .ok (.iconst 3, 1) := by decide +kernel
theorem dL_person_78 : decode cL_person 78 = .ok (.iadd, 1) := by decide +kernel
theorem dL_person_79 : decode cL_person 79 = .ok (.iaload, 1) := by decide +kernel
theorem dL_person_80 : decode cL_person 80 = .ok (.aload 4, 2) := by decide +kernel
theorem dL_person_82 : decode cL_person 82 = .ok (.iload 6, 2) := by decide +kernel
theorem dL_person_84 : decode cL_person 84 = .ok (.iconst 4, 1) := by decide +kernel
theorem dL_person_85 : decode cL_person 85 = .ok (.iadd, 1) := by decide +kernel
theorem dL_person_86 : decode cL_person 86 = .ok (.iaload, 1) := by decide +kernel
theorem dL_person_87 : decode cL_person 87 = .ok (.invokevirtual 101, 3) := by decide +kernel
theorem dL_person_90 : decode cL_person 90 = .ok (.iload 7, 2) := by decide +kernel
theorem dL_person_92 : decode cL_person 92 = .ok (.if_icmp .ne 7, 3) := by decide +kernel
theorem dL_person_95 : decode cL_person 95 = .ok (.iconst 1, 1) := by decide +kernel
theorem dL_person_96 : decode cL_person 96 = .ok (.goto 4, 3) := by decide +kernel
theorem dL_person_99 : decode cL_person 99 = .ok (.iconst 0, 1) := by decide +kernel
theorem dL_person_100 : decode cL_person 100 = .ok (.ireturn, 1) := by decide +kernel
theorem dL_person_101 : decode cL_person 101 = .ok (.iload_n 1, 1) := by decide +kernel
theorem dL_person_102 : decode cL_person 102 = .ok (.iconst 1, 1) := by decide +kernel
theorem dL_person_103 : decode cL_person 103 = .ok (.if_icmp .ne 65, 3) := by decide +kernel
theorem dL_person_106 : decode cL_person 106 = .ok (.aload 4, 2) := by decide +kernel
theorem dL_person_108 : decode cL_person 108 = .ok (.iload 6, 2) := by decide +kernel
theorem dL_person_110 : decode cL_person 110 = .ok (.iconst 2, 1) := by decide +kernel
theorem dL_person_111 : decode cL_person 111 = .ok (.iadd, 1) := by decide +kernel
theorem dL_person_112 : decode cL_person 112 = .ok (.iaload, 1) := by decide +kernel
theorem dL_person_113 : decode cL_person 113 = .ok (.istore 7, 2) := by decide +kernel
theorem dL_person_115 : decode cL_person 115 = .ok (.aload 4, 2) := by decide +kernel
theorem dL_person_117 : decode cL_person 117 = .ok (.iload 6, 2) := by decide +kernel
theorem dL_person_119 : decode cL_person 119 = .ok (.iconst 2, 1) := by decide +kernel
theorem dL_person_120 : decode cL_person 120 = .ok (.iadd, 1) := by decide +kernel
theorem dL_person_121 : decode cL_person 121 = .ok (.iload_n 3, 1) := by decide +kernel
theorem dL_person_122 : decode cL_person 122 = .ok (.iload_n 3, 1) := by decide +kernel
theorem dL_person_123 : decode cL_person 123 = .ok (.bipush 12, 2) := by decide +kernel
theorem dL_person_125 : decode cL_person 125 = .ok (.ishr, 1) := by decide +kernel
theorem dL_person_126 : decode cL_person 126 = .ok (.iconst 3, 1) := by decide +kernel
theorem dL_person_127 : decode cL_person 127 = .ok (.invokestatic 49, 3) := by decide +kernel
theorem dL_person_130 : decode cL_person 130 = .ok (.ifCond .ne 8, 3) := by decide +kernel
theorem dL_person_133 : decode cL_person 133 = .ok (.ldc 105, 2) := by decide +kernel
theorem dL_person_135 : decode cL_person 135 = .ok (.goto 6, 3) := by decide +kernel
theorem dL_person_138 : decode cL_person 138 = .ok (.sipush 9000, 3) := by decide +kernel
theorem dL_person_141 : decode cL_person 141 = .ok (.invokestatic 49, 3) := by decide +kernel
theorem dL_person_144 : decode cL_person 144 = .ok (.iastore, 1) := by decide +kernel
theorem dL_person_145 : decode cL_person 145 = .ok (.aload_n 0, 1) := by decide +kernel
theorem dL_person_146 : decode cL_person 146 = .ok (.iload_n 2, 1) := by decide +kernel
theorem dL_person_147 : decode cL_person 147 = .ok (.aload 4, 2) := by decide +kernel
theorem dL_person_149 : decode cL_person 149 = .ok (.iload 6, 2) := by decide +kernel
theorem dL_person_151 : decode cL_person 151 = .ok (.iconst 2, 1) := by decide +kernel
theorem dL_person_152 : decode cL_person 152 = .ok (.iadd, 1) := by decide +kernel
theorem dL_person_153 : decode cL_person 153 = .ok (.iaload, 1) := by decide +kernel
theorem dL_person_154 : decode cL_person 154 = .ok (.invokevirtual 106, 3) := by decide +kernel
theorem dL_person_157 : decode cL_person 157 = .ok (.iload 7, 2) := by decide +kernel
theorem dL_person_159 : decode cL_person 159 = .ok (.if_icmp .ne 7, 3) := by decide +kernel
theorem dL_person_162 : decode cL_person 162 = .ok (.iconst 1, 1) := by decide +kernel
theorem dL_person_163 : decode cL_person 163 = .ok (.goto 4, 3) := by decide +kernel
theorem dL_person_166 : decode cL_person 166 = .ok (.iconst 0, 1) := by decide +kernel
theorem dL_person_167 : decode cL_person 167 = .ok (.ireturn, 1) := by decide +kernel
theorem dL_person_168 : decode cL_person 168 = .ok (.iload_n 1, 1) := by decide +kernel
theorem dL_person_169 : decode cL_person 169 = .ok (.iconst 2, 1) := by decide +kernel
theorem dL_person_170 : decode cL_person 170 = .ok (.if_icmp .ne 84, 3) := by decide +kernel
theorem dL_person_173 : decode cL_person 173 = .ok (.aload 4, 2) := by decide +kernel
theorem dL_person_175 : decode cL_person 175 = .ok (.iload 6, 2) := by decide +kernel
theorem dL_person_177 : decode cL_person 177 = .ok (.iconst 5, 1) := by decide +kernel
theorem dL_person_178 : decode cL_person 178 = .ok (.iadd, 1) := by decide +kernel
theorem dL_person_179 : decode cL_person 179 = .ok (.iload_n 3, 1) := by decide +kernel
theorem dL_person_180 : decode cL_person 180 = .ok (.iload_n 3, 1) := by decide +kernel
theorem dL_person_181 : decode cL_person 181 = .ok (.bipush 12, 2) := by decide +kernel
theorem dL_person_183 : decode cL_person 183 = .ok (.ishr, 1) := by decide +kernel
theorem dL_person_184 : decode cL_person 184 = .ok (.iconst 3, 1) := by decide +kernel
theorem dL_person_185 : decode cL_person 185 = .ok (.invokestatic 49, 3) := by decide +kernel
theorem dL_person_188 : decode cL_person 188 = .ok (.ifCond .ne 8, 3) := by decide +kernel
theorem dL_person_191 : decode cL_person 191 = .ok (.ldc 109, 2) := by decide +kernel
theorem dL_person_193 : decode cL_person 193 = .ok (.goto 6, 3) := by decide +kernel
theorem dL_person_196 : decode cL_person 196 = .ok (.sipush 3000, 3) := by decide +kernel
theorem dL_person_199 : decode cL_person 199 = .ok (.invokestatic 49, 3) := by decide +kernel
theorem dL_person_202 : decode cL_person 202 = .ok (.iastore, 1) := by decide +kernel
theorem dL_person_203 : decode cL_person 203 = .ok (.aload 4, 2) := by decide +kernel
theorem dL_person_205 : decode cL_person 205 = .ok (.iload 6, 2) := by decide +kernel
theorem dL_person_207 : decode cL_person 207 = .ok (.bipush 6, 2) := by decide +kernel
theorem dL_person_209 : decode cL_person 209 = .ok (.iadd, 1) := by decide +kernel
theorem dL_person_210 : decode cL_person 210 = .ok (.iload_n 3, 1) := by decide +kernel
theorem dL_person_211 : decode cL_person 211 = .ok (.iconst 5, 1) := by decide +kernel
theorem dL_person_212 : decode cL_person 212 = .ok (.ishr, 1) := by decide +kernel
theorem dL_person_213 : decode cL_person 213 = .ok (.bipush 41, 2) := by decide +kernel
theorem dL_person_215 : decode cL_person 215 = .ok (.invokestatic 49, 3) := by decide +kernel
theorem dL_person_218 : decode cL_person 218 = .ok (.iastore, 1) := by decide +kernel
theorem dL_person_219 : decode cL_person 219 = .ok (.aload_n 0, 1) := by decide +kernel
theorem dL_person_220 : decode cL_person 220 = .ok (.iload_n 2, 1) := by decide +kernel
theorem dL_person_221 : decode cL_person 221 = .ok (.aload 4, 2) := by decide +kernel
theorem dL_person_223 : decode cL_person 223 = .ok (.iload 6, 2) := by decide +kernel
theorem dL_person_225 : decode cL_person 225 = .ok (.iconst 5, 1) := by decide +kernel
theorem dL_person_226 : decode cL_person 226 = .ok (.iadd, 1) := by decide +kernel
theorem dL_person_227 : decode cL_person 227 = .ok (.iaload, 1) := by decide +kernel
theorem dL_person_228 : decode cL_person 228 = .ok (.aload 4, 2) := by decide +kernel
theorem dL_person_230 : decode cL_person 230 = .ok (.iload 6, 2) := by decide +kernel
theorem dL_person_232 : decode cL_person 232 = .ok (.bipush 6, 2) := by decide +kernel
theorem dL_person_234 : decode cL_person 234 = .ok (.iadd, 1) := by decide +kernel
theorem dL_person_235 : decode cL_person 235 = .ok (.iaload, 1) := by decide +kernel
theorem dL_person_236 : decode cL_person 236 = .ok (.invokevirtual 110, 3) := by decide +kernel
theorem dL_person_239 : decode cL_person 239 = .ok (.iload_n 2, 1) := by decide +kernel
theorem dL_person_240 : decode cL_person 240 = .ok (.aload 4, 2) := by decide +kernel
theorem dL_person_242 : decode cL_person 242 = .ok (.invokestatic 40, 3) := by decide +kernel
theorem dL_person_245 : decode cL_person 245 = .ok (.if_icmp .ne 7, 3) := by decide +kernel
theorem dL_person_248 : decode cL_person 248 = .ok (.iconst 1, 1) := by decide +kernel
theorem dL_person_249 : decode cL_person 249 = .ok (.goto 4, 3) := by decide +kernel
theorem dL_person_252 : decode cL_person 252 = .ok (.iconst 0, 1) := by decide +kernel
theorem dL_person_253 : decode cL_person 253 = .ok (.ireturn, 1) := by decide +kernel
theorem dL_person_254 : decode cL_person 254 = .ok (.iconst 1, 1) := by decide +kernel
theorem dL_person_255 : decode cL_person 255 = .ok (.iload_n 3, 1) := by decide +kernel
theorem dL_person_256 : decode cL_person 256 = .ok (.iload_n 3, 1) := by decide +kernel
theorem dL_person_257 : decode cL_person 257 = .ok (.bipush 12, 2) := by decide +kernel
theorem dL_person_259 : decode cL_person 259 = .ok (.ishr, 1) := by decide +kernel
theorem dL_person_260 : decode cL_person 260 = .ok (.iconst 3, 1) := by decide +kernel
theorem dL_person_261 : decode cL_person 261 = .ok (.invokestatic 49, 3) := by decide +kernel
theorem dL_person_264 : decode cL_person 264 = .ok (.ifCond .ne 8, 3) := by decide +kernel
theorem dL_person_267 : decode cL_person 267 = .ok (.ldc 113, 2) := by decide +kernel
theorem dL_person_269 : decode cL_person 269 = .ok (.goto 6, 3) := by decide +kernel
theorem dL_person_272 : decode cL_person 272 = .ok (.sipush 20000, 3) := by decide +kernel
theorem dL_person_275 : decode cL_person 275 = .ok (.invokestatic 49, 3) := by decide +kernel
theorem dL_person_278 : decode cL_person 278 = .ok (.iadd, 1) := by decide +kernel
theorem dL_person_279 : decode cL_person 279 = .ok (.istore 7, 2) := by decide +kernel
theorem dL_person_281 : decode cL_person 281 = .ok (.iload_n 3, 1) := by decide +kernel
theorem dL_person_282 : decode cL_person 282 = .ok (.iconst 4, 1) := by decide +kernel
theorem dL_person_283 : decode cL_person 283 = .ok (.ishr, 1) := by decide +kernel
theorem dL_person_284 : decode cL_person 284 = .ok (.bipush 12, 2) := by decide +kernel
theorem dL_person_286 : decode cL_person 286 = .ok (.invokestatic 49, 3) := by decide +kernel
theorem dL_person_289 : decode cL_person 289 = .ok (.istore 8, 2) := by decide +kernel
theorem dL_person_291 : decode cL_person 291 = .ok (.iload 8, 2) := by decide +kernel
theorem dL_person_293 : decode cL_person 293 = .ok (.iconst 1, 1) := by decide +kernel
theorem dL_person_294 : decode cL_person 294 = .ok (.iadd, 1) := by decide +kernel
theorem dL_person_295 : decode cL_person 295 = .ok (.iload_n 3, 1) := by decide +kernel
theorem dL_person_296 : decode cL_person 296 = .ok (.bipush 6, 2) := by decide +kernel
theorem dL_person_298 : decode cL_person 298 = .ok (.ishr, 1) := by decide +kernel
theorem dL_person_299 : decode cL_person 299 = .ok (.bipush 12, 2) := by decide +kernel
theorem dL_person_301 : decode cL_person 301 = .ok (.iload 8, 2) := by decide +kernel
theorem dL_person_303 : decode cL_person 303 = .ok (.isub, 1) := by decide +kernel
theorem dL_person_304 : decode cL_person 304 = .ok (.invokestatic 49, 3) := by decide +kernel
theorem dL_person_307 : decode cL_person 307 = .ok (.iadd, 1) := by decide +kernel
theorem dL_person_308 : decode cL_person 308 = .ok (.istore 9, 2) := by decide +kernel
theorem dL_person_310 : decode cL_person 310 = .ok (.aload 4, 2) := by decide +kernel
theorem dL_person_312 : decode cL_person 312 = .ok (.iload 6, 2) := by decide +kernel
theorem dL_person_314 : decode cL_person 314 = .ok (.bipush 7, 2) := by decide +kernel
theorem dL_person_316 : decode cL_person 316 = .ok (.iadd, 1) := by decide +kernel
theorem dL_person_317 : decode cL_person 317 = .ok (.iaload, 1) := by decide +kernel
theorem dL_person_318 : decode cL_person 318 = .ok (.bipush 6, 2) := by decide +kernel
theorem dL_person_320 : decode cL_person 320 = .ok (.if_icmp .ne 8, 3) := by decide +kernel
theorem dL_person_323 : decode cL_person 323 = .ok (.bipush (-3), 2) := by decide +kernel
theorem dL_person_325 : decode cL_person 325 = .ok (.goto 11, 3) := by decide +kernel
theorem dL_person_328 : decode cL_person 328 = .ok (.aload 4, 2) := by decide +kernel
theorem dL_person_330 : decode cL_person 330 = .ok (.iload 6, 2) := by decide +kernel
theorem dL_person_332 : decode cL_person 332 = .ok (.bipush 7, 2) := by decide +kernel
theorem dL_person_334 : decode cL_person 334 = .ok (.iadd, 1) := by decide +kernel
theorem dL_person_335 : decode cL_person 335 = .ok (.iaload, 1) := by decide +kernel
theorem dL_person_336 : decode cL_person 336 = .ok (.istore 10, 2) := by decide +kernel
theorem dL_person_338 : decode cL_person 338 = .ok (.iload 10, 2) := by decide +kernel
theorem dL_person_340 : decode cL_person 340 = .ok (.ifCond .lt 61, 3) := by decide +kernel
theorem dL_person_343 : decode cL_person 343 = .ok (.aload 5, 2) := by decide +kernel
theorem dL_person_345 : decode cL_person 345 = .ok (.bipush 18, 2) := by decide +kernel
theorem dL_person_347 : decode cL_person 347 = .ok (.iload_n 2, 1) := by decide +kernel
theorem dL_person_348 : decode cL_person 348 = .ok (.imul, 1) := by decide +kernel
theorem dL_person_349 : decode cL_person 349 = .ok (.iconst 3, 1) := by decide +kernel
theorem dL_person_350 : decode cL_person 350 = .ok (.iload 10, 2) := by decide +kernel
theorem dL_person_352 : decode cL_person 352 = .ok (.imul, 1) := by decide +kernel
theorem dL_person_353 : decode cL_person 353 = .ok (.iadd, 1) := by decide +kernel
theorem dL_person_354 : decode cL_person 354 = .ok (.iload 7, 2) := by decide +kernel
theorem dL_person_356 : decode cL_person 356 = .ok (.iastore, 1) := by decide +kernel
theorem dL_person_357 : decode cL_person 357 = .ok (.aload 5, 2) := by decide +kernel
theorem dL_person_359 : decode cL_person 359 = .ok (.bipush 18, 2) := by decide +kernel
theorem dL_person_361 : decode cL_person 361 = .ok (.iload_n 2, 1) := by decide +kernel
theorem dL_person_362 : decode cL_person 362 = .ok (.imul, 1) := by decide +kernel
theorem dL_person_363 : decode cL_person 363 = .ok (.iconst 3, 1) := by decide +kernel
theorem dL_person_364 : decode cL_person 364 = .ok (.iload 10, 2) := by decide +kernel
theorem dL_person_366 : decode cL_person 366 = .ok (.imul, 1) := by decide +kernel
theorem dL_person_367 : decode cL_person 367 = .ok (.iadd, 1) := by decide +kernel
theorem dL_person_368 : decode cL_person 368 = .ok (.iconst 1, 1) := by decide +kernel
theorem dL_person_369 : decode cL_person 369 = .ok (.iadd, 1) := by decide +kernel
theorem dL_person_370 : decode cL_person 370 = .ok (.iload 8, 2) := by decide +kernel
theorem dL_person_372 : decode cL_person 372 = .ok (.iastore, 1) := by decide +kernel
theorem dL_person_373 : decode cL_person 373 = .ok (.aload 5, 2) := by decide +kernel
theorem dL_person_375 : decode cL_person 375 = .ok (.bipush 18, 2) := by decide +kernel
theorem dL_person_377 : decode cL_person 377 = .ok (.iload_n 2, 1) := by decide +kernel
theorem dL_person_378 : decode cL_person 378 = .ok (.imul, 1) := by decide +kernel
theorem dL_person_379 : decode cL_person 379 = .ok (.iconst 3, 1) := by decide +kernel
theorem dL_person_380 : decode cL_person 380 = .ok (.iload 10, 2) := by decide +kernel
theorem dL_person_382 : decode cL_person 382 = .ok (.imul, 1) := by decide +kernel
theorem dL_person_383 : decode cL_person 383 = .ok (.iadd, 1) := by decide +kernel
theorem dL_person_384 : decode cL_person 384 = .ok (.iconst 2, 1) := by decide +kernel
theorem dL_person_385 : decode cL_person 385 = .ok (.iadd, 1) := by decide +kernel
theorem dL_person_386 : decode cL_person 386 = .ok (.iload 9, 2) := by decide +kernel
theorem dL_person_388 : decode cL_person 388 = .ok (.iastore, 1) := by decide +kernel
theorem dL_person_389 : decode cL_person 389 = .ok (.aload 4, 2) := by decide +kernel
theorem dL_person_391 : decode cL_person 391 = .ok (.iload 6, 2) := by decide +kernel
theorem dL_person_393 : decode cL_person 393 = .ok (.bipush 7, 2) := by decide +kernel
theorem dL_person_395 : decode cL_person 395 = .ok (.iadd, 1) := by decide +kernel
theorem dL_person_396 : decode cL_person 396 = .ok (.dup2, 1) := by decide +kernel
theorem dL_person_397 : decode cL_person 397 = .ok (.iaload, 1) := by decide +kernel
theorem dL_person_398 : decode cL_person 398 = .ok (.iconst 1, 1) := by decide +kernel
theorem dL_person_399 : decode cL_person 399 = .ok (.iadd, 1) := by decide +kernel
theorem dL_person_400 : decode cL_person 400 = .ok (.iastore, 1) := by decide +kernel
theorem dL_person_401 : decode cL_person 401 = .ok (.aload_n 0, 1) := by decide +kernel
theorem dL_person_402 : decode cL_person 402 = .ok (.iload_n 2, 1) := by decide +kernel
theorem dL_person_403 : decode cL_person 403 = .ok (.iload 7, 2) := by decide +kernel
theorem dL_person_405 : decode cL_person 405 = .ok (.iload 8, 2) := by decide +kernel
theorem dL_person_407 : decode cL_person 407 = .ok (.iload 9, 2) := by decide +kernel
theorem dL_person_409 : decode cL_person 409 = .ok (.invokestatic 114, 3) := by decide +kernel
theorem dL_person_412 : decode cL_person 412 = .ok (.iload 10, 2) := by decide +kernel
theorem dL_person_414 : decode cL_person 414 = .ok (.if_icmp .ne 7, 3) := by decide +kernel
theorem dL_person_417 : decode cL_person 417 = .ok (.iconst 1, 1) := by decide +kernel
theorem dL_person_418 : decode cL_person 418 = .ok (.goto 4, 3) := by decide +kernel
theorem dL_person_421 : decode cL_person 421 = .ok (.iconst 0, 1) := by decide +kernel
theorem dL_person_422 : decode cL_person 422 = .ok (.ireturn, 1) := by decide +kernel
set_option maxRecDepth 20000 in
theorem ggL_dearest_X3_dearest : GoodIn wsL_dearest wsX3_dearest := goodIn_r _ [5, 6, 7, 8, 9, 10, 11, 12, 13, 14, 15, 16, 17, 18, 19, 20, 21, 22, 23, 24, 25, 26, 27, 28, 29, 30, 31, 32, 33, 34, 35, 36, 37, 38, 39, 40, 41, 42, 43, 44, 45, 46, 47, 48, 49, 50, 51, 52, 53, 54, 55, 56, 57, 58, 59, 60, 61, 62, 63, 64, 65, 66, 67, 68, 69, 70, 71, 72, 73, 74, 75, 76, 77, 78, 79, 80, 81, 82, 83, 84, 85, 86, 87, 88, 89, 90, 91, 92, 93, 94, 95, 96, 97, 98, 99, 100, 101, 102, 103, 104, 105, 106, 107, 108, 109, 110, 111, 112, 113, 114, 115, 116, 117, 118, 119, 120, 121, 122, 123, 124, 125, 126, 127, 128, 129, 130, 141, 142, 143, 144, 145, 146, 147, 148, 149, 150, 151, 152, 153, 154, 155, 156, 157, 158, 159, 160, 161] (by decide +kernel) (by decide +kernel)
set_option maxRecDepth 20000 in
theorem gL_dearest_X3_dearest : GoodIn wsL_dearest (wsV RL 118 RX3 yX3_dearest wsX3_dearest) := goodIn_app (goodIn_of _ (by decide +kernel)) ggL_dearest_X3_dearest
set_option maxRecDepth 20000 in
theorem ggL_dearest_X3_cost : GoodIn wsL_dearest wsX3_cost := goodIn_ca (goodIn_r _ [134, 135, 136, 137, 4, 138, 139, 140, 6, 7, 8, 9, 10, 11, 12, 13, 14, 15, 16, 17, 18, 19, 20, 21, 22, 23, 24, 25, 26, 27, 28, 29, 30, 31, 32, 33, 34, 35, 36, 37, 38, 39, 40, 41, 42, 43, 44, 45, 46, 47, 48, 49, 50, 51, 52, 53, 54, 55, 56, 57, 58, 59, 60, 61, 62, 63, 64, 65, 66, 67, 68, 69, 70, 71, 72, 73, 74, 75, 76, 77, 78, 79, 80, 81, 82, 83, 84, 85, 86, 87, 88, 89, 90, 91, 92, 93, 94, 95, 96, 97, 98, 99, 100, 101, 102, 103, 104, 105, 106, 107, 108, 109, 110, 111, 112, 113, 114, 115, 116, 117, 118, 119, 120, 121, 122, 123, 124, 125, 126, 127, 128, 129, 130, 141, 142, 143, 144, 145, 146, 147, 148, 149, 150, 151, 152, 153, 154, 155, 156, 157, 158, 159, 160, 161] (by decide +kernel) (by decide +kernel)) (goodIn_sub (fun _ h => List.mem_cons_of_mem _ (List.mem_append_right _ h)) (by decide +kernel))
set_option maxRecDepth 20000 in
theorem gL_dearest_X3_cost : GoodIn wsL_dearest (wsV RL 77 RX3 yX3_cost wsX3_cost) := goodIn_app (goodIn_of _ (by decide +kernel)) ggL_dearest_X3_cost
theorem dL_dearest_0 : decode cL_dearest 0 = .ok (.aload_n 0, 1) := by decide +kernel
theorem dL_dearest_1 : decode cL_dearest 1 = .ok (.invokevirtual 118, 3) := by decide +kernel
theorem dL_dearest_4 : decode cL_dearest 4 = .ok (.istore_n 2, 1) := by decide +kernel
theorem dL_dearest_5 : decode cL_dearest 5 = .ok (.iload_n 1, 1) := by decide +kernel
theorem dL_dearest_6 : decode cL_dearest 6 = .ok (.ifCond .ne 16, 3) := by decide +kernel
theorem dL_dearest_9 : decode cL_dearest 9 = .ok (.iload_n 2, 1) := by decide +kernel
theorem dL_dearest_10 : decode cL_dearest 10 = .ok (.iconst (-1), 1) := by decide +kernel
theorem dL_dearest_11 : decode cL_dearest 11 = .ok (.if_icmp .ne 7, 3) := by decide +kernel
theorem dL_dearest_14 : decode cL_dearest 14 = .ok (.iconst 1, 1) := by decide +kernel
theorem dL_dearest_15 : decode cL_dearest 15 = .ok (.goto 21, 3) := by decide +kernel
theorem dL_dearest_18 : decode cL_dearest 18 = .ok (.iconst 0, 1) := by decide +kernel
theorem dL_dearest_19 : decode cL_dearest 19 = .ok (.goto 17, 3) := by decide +kernel
theorem dL_dearest_22 : decode cL_dearest 22 = .ok (.iload_n 2, 1) := by decide +kernel
theorem dL_dearest_23 : decode cL_dearest 23 = .ok (.ifCond .lt 12, 3) := by decide +kernel
theorem dL_dearest_26 : decode cL_dearest 26 = .ok (.iload_n 2, 1) := by decide +kernel
theorem dL_dearest_27 : decode cL_dearest 27 = .ok (.iload_n 1, 1) := by decide +kernel
theorem dL_dearest_28 : decode cL_dearest 28 = .ok (.if_icmp .ge 7, 3) := by decide +kernel
theorem dL_dearest_31 : decode cL_dearest 31 = .ok (.iconst 1, 1) := by decide +kernel
theorem dL_dearest_32 : decode cL_dearest 32 = .ok (.goto 4, 3) := by decide +kernel
theorem dL_dearest_35 : decode cL_dearest 35 = .ok (.iconst 0, 1) := by decide +kernel
theorem dL_dearest_36 : decode cL_dearest 36 = .ok (.istore_n 3, 1) := by decide +kernel
theorem dL_dearest_37 : decode cL_dearest 37 = .ok (.iconst 0, 1) := by decide +kernel
theorem dL_dearest_38 : decode cL_dearest 38 = .ok (.istore 4, 2) := by decide +kernel
theorem dL_dearest_40 : decode cL_dearest 40 = .ok (.iload 4, 2) := by decide +kernel
theorem dL_dearest_42 : decode cL_dearest 42 = .ok (.iload_n 1, 1) := by decide +kernel
theorem dL_dearest_43 : decode cL_dearest 43 = .ok (.if_icmp .ge 61, 3) := by decide +kernel
theorem dL_dearest_46 : decode cL_dearest 46 = .ok (.iload_n 3, 1) := by decide +kernel
theorem dL_dearest_47 : decode cL_dearest 47 = .ok (.ifCond .eq 57, 3) := by decide +kernel
theorem dL_dearest_50 : decode cL_dearest 50 = .ok (.iload 4, 2) := by decide +kernel
theorem dL_dearest_52 : decode cL_dearest 52 = .ok (.iload_n 2, 1) := by decide +kernel
theorem dL_dearest_53 : decode cL_dearest 53 = .ok (.if_icmp .ge 25, 3) := by decide +kernel
theorem dL_dearest_56 : decode cL_dearest 56 = .ok (.aload_n 0, 1) := by decide +kernel
theorem dL_dearest_57 : decode cL_dearest 57 = .ok (.iload 4, 2) := by decide +kernel
theorem dL_dearest_59 : decode cL_dearest 59 = .ok (.invokevirtual 77, 3) := by decide +kernel
theorem dL_dearest_62 : decode cL_dearest 62 = .ok (.aload_n 0, 1) := by decide +kernel
theorem dL_dearest_63 : decode cL_dearest 63 = .ok (.iload_n 2, 1) := by decide +kernel
theorem dL_dearest_64 : decode cL_dearest 64 = .ok (.invokevirtual 77, 3) := by decide +kernel
theorem dL_dearest_67 : decode cL_dearest 67 = .ok (.if_icmp .ge 7, 3) := by decide +kernel
theorem dL_dearest_70 : decode cL_dearest 70 = .ok (.iconst 1, 1) := by decide +kernel
theorem dL_dearest_71 : decode cL_dearest 71 = .ok (.goto 26, 3) := by decide +kernel
theorem dL_dearest_74 : decode cL_dearest 74 = .ok (.iconst 0, 1) := by decide +kernel
theorem dL_dearest_75 : decode cL_dearest 75 = .ok (.goto 22, 3) := by decide +kernel
theorem dL_dearest_78 : decode cL_dearest 78 = .ok (.aload_n 0, 1) := by decide +kernel
theorem dL_dearest_79 : decode cL_dearest 79 = .ok (.iload 4, 2) := by decide +kernel
theorem dL_dearest_81 : decode cL_dearest 81 = .ok (.invokevirtual 77, 3) := by decide +kernel
theorem dL_dearest_84 : decode cL_dearest 84 = .ok (.aload_n 0, 1) := by decide +kernel
theorem dL_dearest_85 : decode cL_dearest 85 = .ok (.iload_n 2, 1) := by decide +kernel
theorem dL_dearest_86 : decode cL_dearest 86 = .ok (.invokevirtual 77, 3) := by decide +kernel
theorem dL_dearest_89 : decode cL_dearest 89 = .ok (.if_icmp .gt 7, 3) := by decide +kernel
theorem dL_dearest_92 : decode cL_dearest 92 = .ok (.iconst 1, 1) := by decide +kernel
theorem dL_dearest_93 : decode cL_dearest 93 = .ok (.goto 4, 3) := by decide +kernel
theorem dL_dearest_96 : decode cL_dearest 96 = .ok (.iconst 0, 1) := by decide +kernel
theorem dL_dearest_97 : decode cL_dearest 97 = .ok (.istore_n 3, 1) := by decide +kernel
theorem dL_dearest_98 : decode cL_dearest 98 = .ok (.iinc 4 1, 3) := by decide +kernel
theorem dL_dearest_101 : decode cL_dearest 101 = .ok (.goto (-61), 3) := by decide +kernel
theorem dL_dearest_104 : decode cL_dearest 104 = .ok (.iload_n 3, 1) := by decide +kernel
theorem dL_dearest_105 : decode cL_dearest 105 = .ok (.ireturn, 1) := by decide +kernel
set_option maxRecDepth 20000 in
theorem ggL_law_X3_init : GoodIn wsL_law wsX3_init := goodIn_r _ [7, 8, 9, 10, 11, 12, 13, 14, 15, 16, 17, 18, 19, 20, 21, 22, 23, 24, 25, 26, 27, 28, 29, 30, 31, 32, 33, 34, 35, 36, 37, 38, 39, 40, 41, 42, 43, 44, 45, 46, 47, 48, 49, 50, 51, 52, 53, 54, 55, 56, 57, 58, 59, 60, 61, 62, 63, 64, 65, 66, 67, 68, 69, 70, 71, 72, 73, 74, 75, 76, 77, 78, 79, 80, 81, 82, 83, 84, 85, 86, 87, 88, 89, 90, 91, 92, 93, 94, 95, 421, 422, 423, 419, 420, 424, 425, 426, 427, 428] (by decide +kernel) (by decide +kernel)
set_option maxRecDepth 20000 in
theorem gL_law_X3_init : GoodIn wsL_law (wsX3_init) := ggL_law_X3_init
set_option maxRecDepth 20000 in
theorem ggL_law_L_cell : GoodIn wsL_law wsL_cell := goodIn_r _ [99, 100, 101] (by decide +kernel) (by decide +kernel)
set_option maxRecDepth 20000 in
theorem gL_law_L_cell : GoodIn wsL_law (va_wsS RL 123 yL_cell wsL_cell) := goodIn_app (goodIn_of _ (by decide +kernel)) ggL_law_L_cell
set_option maxRecDepth 20000 in
theorem ggL_law_L_low : GoodIn wsL_law wsL_low := goodIn_r _ [104, 105] (by decide +kernel) (by decide +kernel)
set_option maxRecDepth 20000 in
theorem gL_law_L_low : GoodIn wsL_law (va_wsS RL 49 yL_low wsL_low) := goodIn_app (goodIn_of _ (by decide +kernel)) ggL_law_L_low
set_option maxRecDepth 20000 in
theorem ggL_law_X3_add : GoodIn wsL_law wsX3_add := goodIn_ca (goodIn_ca (goodIn_r _ [109, 110, 111, 112, 113, 114, 15, 115, 116, 117, 118, 119, 120, 2, 121, 14, 122, 123, 124, 125, 13, 126, 49, 127, 128, 129, 130, 131, 132, 133, 134, 135, 136, 137, 138, 139, 140, 141, 142, 23, 143, 144, 145, 146, 147, 148, 149, 9, 10, 150, 12, 151, 152, 153, 154, 155, 156, 157, 158, 159, 20, 21, 22, 24, 25, 26, 27, 28, 29, 30, 31, 32, 33, 43, 44, 45, 46, 47, 48, 50, 51, 52, 53, 54, 55, 56, 57, 58, 59, 60, 61, 62, 63, 64, 65, 66, 67, 68, 69, 70, 71, 72, 73, 74, 75, 76, 77, 78, 79, 80, 81, 82, 83, 84, 85, 86, 87, 88, 89, 90, 91, 92, 93, 94, 95, 419, 420, 429, 430, 431, 432, 433, 434, 435, 436, 421, 422, 423] (by decide +kernel) (by decide +kernel)) (goodIn_sub (fun _ h => List.mem_append_left _ (List.mem_append_left _ (List.mem_append_right _ h))) (by decide +kernel))) (goodIn_sub (fun _ h => List.mem_append_left _ (List.mem_append_right _ h)) (by decide +kernel))
set_option maxRecDepth 20000 in
theorem gL_law_X3_add : GoodIn wsL_law (wsV RL 127 RX3 yX3_add wsX3_add) := goodIn_app (goodIn_of _ (by decide +kernel)) ggL_law_X3_add
set_option maxRecDepth 20000 in
theorem ggL_law_L_lands : GoodIn wsL_law wsL_lands := goodIn_ca (goodIn_r _ [162, 163, 4, 164, 102, 103, 98, 104, 105, 165, 166, 167, 2, 168, 169, 118, 119, 120, 121, 110, 111, 14, 122, 123, 124, 125, 13, 126, 49, 127, 128, 129, 130, 131, 132, 133, 134, 135, 136, 137, 138, 139, 140, 141, 142, 23, 143, 144, 145, 170, 171, 172, 18, 173, 37, 39, 174, 175, 176, 177, 178, 179, 180, 181, 40, 41, 42, 419, 420, 421, 422, 423, 424, 425, 426, 427, 428] (by decide +kernel) (by decide +kernel)) (goodIn_sub (fun _ h => List.mem_append_left _ (List.mem_append_left _ (List.mem_append_right _ h))) (by decide +kernel))
set_option maxRecDepth 20000 in
theorem gL_law_L_lands : GoodIn wsL_law (va_wsS RL 130 yL_lands wsL_lands) := goodIn_app (goodIn_of _ (by decide +kernel)) ggL_law_L_lands
set_option maxRecDepth 20000 in
theorem ggL_law_L_person : GoodIn wsL_law wsL_person := goodIn_ca (goodIn_ca (goodIn_ca (goodIn_r _ [184, 185, 186, 187, 102, 103, 98, 104, 105, 188, 189, 190, 2, 191, 192, 193, 194, 195, 196, 197, 15, 198, 123, 124, 125, 13, 126, 49, 127, 128, 129, 130, 131, 132, 133, 134, 135, 136, 137, 138, 139, 140, 141, 142, 23, 143, 144, 145, 110, 111, 199, 200, 201, 117, 202, 153, 152, 203, 204, 205, 206, 114, 207, 208, 209, 210, 211, 212, 213, 214, 215, 154, 158, 155, 216, 90, 64, 91, 217, 218, 219, 220, 221, 222, 223, 224, 225, 226, 227, 112, 113, 228, 229, 230, 231, 232, 233, 234, 235, 9, 10, 236, 237, 238, 43, 44, 45, 46, 47, 48, 50, 51, 52, 53, 54, 55, 56, 57, 58, 59, 60, 61, 22, 62, 63, 65, 66, 67, 68, 69, 70, 71, 72, 73, 74, 75, 76, 77, 78, 79, 80, 81, 82, 83, 84, 85, 86, 87, 88, 89, 92, 93, 94, 95, 429, 430, 431, 432, 433, 434, 435, 436, 419, 420, 421, 422, 423, 437, 438, 439] (by decide +kernel) (by decide +kernel)) (goodIn_sub (fun _ h => List.mem_append_right _ h) (by decide +kernel))) (goodIn_sub (fun _ h => List.mem_append_left _ (List.mem_append_left _ (List.mem_append_right _ h))) (by decide +kernel))) (goodIn_sub (fun _ h => List.mem_append_left _ (List.mem_append_right _ h)) (by decide +kernel))
set_option maxRecDepth 20000 in
theorem gL_law_L_person : GoodIn wsL_law (va_wsS RL 134 yL_person wsL_person) := goodIn_app (goodIn_of _ (by decide +kernel)) ggL_law_L_person
set_option maxRecDepth 20000 in
theorem ggL_law_X3_people : GoodIn wsL_law wsX3_people := goodIn_r _ [242, 15, 123, 124, 125, 13, 126, 49, 419, 420, 421, 422, 423] (by decide +kernel) (by decide +kernel)
set_option maxRecDepth 20000 in
theorem gL_law_X3_people : GoodIn wsL_law (wsV RL 138 RX3 yX3_people wsX3_people) := goodIn_app (goodIn_of _ (by decide +kernel)) ggL_law_X3_people
set_option maxRecDepth 20000 in
theorem ggL_law_L_isLand : GoodIn wsL_law wsL_isLand := goodIn_ca (goodIn_r _ [245, 246, 247, 102, 103, 98, 104, 105, 248, 249, 250, 2, 251, 252, 118, 119, 120, 121, 110, 111, 14, 122, 123, 124, 125, 13, 126, 49, 127, 128, 129, 130, 131, 132, 133, 134, 135, 136, 137, 138, 139, 140, 141, 142, 23, 143, 144, 145, 253, 254, 255, 18, 256, 37, 257, 90, 64, 91, 39, 258, 63, 65, 40, 41, 42, 259, 260, 261, 262, 263, 264, 265, 266, 267, 268, 269, 270, 271, 272, 273, 274, 275, 276, 277, 278, 279, 280, 281, 282, 283, 284, 285, 286, 419, 420, 421, 422, 423, 424, 425, 426, 427, 428] (by decide +kernel) (by decide +kernel)) (goodIn_sub (fun _ h => List.mem_append_left _ (List.mem_append_left _ (List.mem_append_right _ h))) (by decide +kernel))
set_option maxRecDepth 20000 in
theorem gL_law_L_isLand : GoodIn wsL_law (va_wsS RL 141 yL_isLand wsL_isLand) := goodIn_app (goodIn_of _ (by decide +kernel)) ggL_law_L_isLand
set_option maxRecDepth 20000 in
theorem ggL_law_L_dearest : GoodIn wsL_law wsL_dearest := goodIn_ca (goodIn_r _ [289, 290, 291, 292, 2, 293, 15, 198, 123, 124, 125, 13, 126, 49, 127, 128, 129, 130, 131, 132, 133, 134, 135, 136, 137, 138, 139, 140, 141, 142, 23, 294, 295, 296, 117, 297, 298, 299, 300, 301, 157, 302, 303, 304, 305, 158, 151, 306, 307, 200, 201, 202, 153, 152, 308, 309, 310, 311, 154, 312, 213, 214, 215, 155, 216, 90, 64, 91, 313, 314, 315, 316, 317, 318, 319, 63, 65, 320, 269, 270, 18, 271, 272, 273, 274, 275, 254, 255, 256, 37, 257, 39, 258, 40, 41, 42, 259, 321, 322, 323, 324, 325, 326, 327, 328, 156, 329, 330, 331, 332, 333, 334, 335, 336, 337, 338, 339, 340, 341, 342, 343, 344, 345, 346, 347, 348, 349, 350, 351, 352, 353, 354, 355, 356, 357, 192, 193, 194, 195, 196, 197, 419, 420, 421, 422, 423, 429, 430, 431, 432, 433, 434, 435, 436, 437, 438, 439, 424, 425, 426, 427, 428] (by decide +kernel) (by decide +kernel)) (goodIn_sub (fun _ h => List.mem_append_right _ h) (by decide +kernel))
set_option maxRecDepth 20000 in
theorem gL_law_L_dearest : GoodIn wsL_law (va_wsS RL 144 yL_dearest wsL_dearest) := goodIn_app (goodIn_of _ (by decide +kernel)) ggL_law_L_dearest
set_option maxRecDepth 20000 in
theorem ggL_law_L_isPerson : GoodIn wsL_law wsL_isPerson := goodIn_ca (goodIn_ca (goodIn_r _ [360, 361, 362, 363, 98, 364, 365, 366, 367, 368, 369, 370, 371, 2, 372, 196, 197, 373, 192, 193, 194, 195, 15, 198, 123, 124, 125, 13, 126, 49, 127, 128, 129, 130, 131, 132, 133, 134, 135, 136, 137, 138, 139, 140, 141, 142, 23, 374, 316, 317, 117, 318, 153, 216, 90, 64, 91, 152, 319, 63, 65, 217, 218, 219, 260, 261, 262, 263, 276, 277, 278, 102, 103, 104, 105, 375, 376, 377, 378, 143, 144, 145, 110, 111, 379, 380, 381, 382, 383, 326, 327, 328, 156, 158, 329, 254, 255, 18, 256, 37, 257, 39, 258, 40, 41, 42, 259, 384, 385, 386, 387, 388, 335, 336, 337, 338, 339, 340, 341, 151, 306, 313, 314, 389, 390, 391, 392, 393, 351, 352, 353, 307, 200, 201, 202, 315, 394, 395, 396, 397, 398, 347, 348, 349, 350, 399, 400, 401, 402, 403, 303, 304, 305, 308, 309, 310, 311, 154, 312, 213, 214, 215, 155, 404, 405, 406, 407, 408, 299, 300, 301, 157, 302, 320, 269, 270, 271, 272, 273, 274, 275, 409, 410, 411, 412, 413, 343, 344, 345, 321, 322, 323, 324, 325, 346, 414, 415, 416, 417, 418, 331, 332, 333, 334, 342, 354, 355, 356, 357, 294, 295, 296, 297, 298, 330, 429, 430, 431, 432, 433, 434, 435, 436, 419, 420, 421, 422, 423, 437, 438, 439, 424, 425, 426, 427, 428] (by decide +kernel) (by decide +kernel)) (goodIn_sub (fun _ h => List.mem_append_right _ h) (by decide +kernel))) (goodIn_sub (fun _ h => List.mem_append_left _ (List.mem_append_left _ (List.mem_append_right _ h))) (by decide +kernel))
set_option maxRecDepth 20000 in
theorem gL_law_L_isPerson : GoodIn wsL_law (va_wsS RL 147 yL_isPerson wsL_isPerson) := goodIn_app (goodIn_of _ (by decide +kernel)) ggL_law_L_isPerson
theorem dL_law_0 : decode cL_law 0 = .ok (.new 11, 3) := by decide +kernel
theorem dL_law_3 : decode cL_law 3 = .ok (.dup, 1) := by decide +kernel
theorem dL_law_4 : decode cL_law 4 = .ok (.invokespecial 122, 3) := by decide +kernel
theorem dL_law_7 : decode cL_law 7 = .ok (.astore_n 1, 1) := by decide +kernel
theorem dL_law_8 : decode cL_law 8 = .ok (.bipush 20, 2) := by decide +kernel
theorem dL_law_10 : decode cL_law 10 = .ok (.newarray .int, 2) := by decide +kernel
theorem dL_law_12 : decode cL_law 12 = .ok (.astore_n 2, 1) := by decide +kernel
theorem dL_law_13 : decode cL_law 13 = .ok (.bipush 24, 2) := by decide +kernel
theorem dL_law_15 : decode cL_law 15 = .ok (.newarray .int, 2) := by decide +kernel
theorem dL_law_17 : decode cL_law 17 = .ok (.astore_n 3, 1) := by decide +kernel
theorem dL_law_18 : decode cL_law 18 = .ok (.bipush 54, 2) := by decide +kernel
theorem dL_law_20 : decode cL_law 20 = .ok (.newarray .int, 2) := by decide +kernel
theorem dL_law_22 : decode cL_law 22 = .ok (.astore 4, 2) := by decide +kernel
theorem dL_law_24 : decode cL_law 24 = .ok (.iconst 0, 1) := by decide +kernel
theorem dL_law_25 : decode cL_law 25 = .ok (.istore 5, 2) := by decide +kernel
theorem dL_law_27 : decode cL_law 27 = .ok (.iconst 0, 1) := by decide +kernel
theorem dL_law_28 : decode cL_law 28 = .ok (.istore 6, 2) := by decide +kernel
theorem dL_law_30 : decode cL_law 30 = .ok (.iload 6, 2) := by decide +kernel
theorem dL_law_32 : decode cL_law 32 = .ok (.iconst 4, 1) := by decide +kernel
theorem dL_law_33 : decode cL_law 33 = .ok (.if_icmp .ge 58, 3) := by decide +kernel
theorem dL_law_36 : decode cL_law 36 = .ok (.aload_n 2, 1) := by decide +kernel
theorem dL_law_37 : decode cL_law 37 = .ok (.iconst 5, 1) := by decide +kernel
theorem dL_law_38 : decode cL_law 38 = .ok (.iload 6, 2) := by decide +kernel
theorem dL_law_40 : decode cL_law 40 = .ok (.imul, 1) := by decide +kernel
theorem dL_law_41 : decode cL_law 41 = .ok (.sipush 10000, 3) := by decide +kernel
theorem dL_law_44 : decode cL_law 44 = .ok (.iastore, 1) := by decide +kernel
theorem dL_law_45 : decode cL_law 45 = .ok (.aload_n 2, 1) := by decide +kernel
theorem dL_law_46 : decode cL_law 46 = .ok (.iconst 5, 1) := by decide +kernel
theorem dL_law_47 : decode cL_law 47 = .ok (.iload 6, 2) := by decide +kernel
theorem dL_law_49 : decode cL_law 49 = .ok (.imul, 1) := by decide +kernel
theorem dL_law_50 : decode cL_law 50 = .ok (.iconst 1, 1) := by decide +kernel
theorem dL_law_51 : decode cL_law 51 = .ok (.iadd, 1) := by decide +kernel
theorem dL_law_52 : decode cL_law 52 = .ok (.ldc 91, 2) := by decide +kernel
theorem dL_law_54 : decode cL_law 54 = .ok (.iastore, 1) := by decide +kernel
theorem dL_law_55 : decode cL_law 55 = .ok (.aload_n 2, 1) := by decide +kernel
theorem dL_law_56 : decode cL_law 56 = .ok (.iconst 5, 1) := by decide +kernel
theorem dL_law_57 : decode cL_law 57 = .ok (.iload 6, 2) := by decide +kernel
theorem dL_law_59 : decode cL_law 59 = .ok (.imul, 1) := by decide +kernel
theorem dL_law_60 : decode cL_law 60 = .ok (.iconst 2, 1) := by decide +kernel
theorem dL_law_61 : decode cL_law 61 = .ok (.iadd, 1) := by decide +kernel
theorem dL_law_62 : decode cL_law 62 = .ok (.bipush 10, 2) := by decide +kernel
theorem dL_law_64 : decode cL_law 64 = .ok (.iastore, 1) := by decide +kernel
theorem dL_law_65 : decode cL_law 65 = .ok (.aload_n 2, 1) := by decide +kernel
theorem dL_law_66 : decode cL_law 66 = .ok (.iconst 5, 1) := by decide +kernel
theorem dL_law_67 : decode cL_law 67 = .ok (.iload 6, 2) := by decide +kernel
theorem dL_law_69 : decode cL_law 69 = .ok (.imul, 1) := by decide +kernel
theorem dL_law_70 : decode cL_law 70 = .ok (.iconst 3, 1) := by decide +kernel
theorem dL_law_71 : decode cL_law 71 = .ok (.iadd, 1) := by decide +kernel
theorem dL_law_72 : decode cL_law 72 = .ok (.bipush 20, 2) := by decide +kernel
theorem dL_law_74 : decode cL_law 74 = .ok (.iastore, 1) := by decide +kernel
theorem dL_law_75 : decode cL_law 75 = .ok (.aload_n 2, 1) := by decide +kernel
theorem dL_law_76 : decode cL_law 76 = .ok (.iconst 5, 1) := by decide +kernel
theorem dL_law_77 : decode cL_law 77 = .ok (.iload 6, 2) := by decide +kernel
theorem dL_law_79 : decode cL_law 79 = .ok (.imul, 1) := by decide +kernel
theorem dL_law_80 : decode cL_law 80 = .ok (.iconst 4, 1) := by decide +kernel
theorem dL_law_81 : decode cL_law 81 = .ok (.iadd, 1) := by decide +kernel
theorem dL_law_82 : decode cL_law 82 = .ok (.bipush 40, 2) := by decide +kernel
theorem dL_law_84 : decode cL_law 84 = .ok (.iastore, 1) := by decide +kernel
theorem dL_law_85 : decode cL_law 85 = .ok (.iinc 6 1, 3) := by decide +kernel
theorem dL_law_88 : decode cL_law 88 = .ok (.goto (-58), 3) := by decide +kernel
theorem dL_law_91 : decode cL_law 91 = .ok (.iconst 0, 1) := by decide +kernel
theorem dL_law_92 : decode cL_law 92 = .ok (.istore 6, 2) := by decide +kernel
theorem dL_law_94 : decode cL_law 94 = .ok (.iload 6, 2) := by decide +kernel
theorem dL_law_96 : decode cL_law 96 = .ok (.bipush 90, 2) := by decide +kernel
theorem dL_law_98 : decode cL_law 98 = .ok (.if_icmp .ge 301, 3) := by decide +kernel
theorem dL_law_101 : decode cL_law 101 = .ok (.aload_n 0, 1) := by decide +kernel
theorem dL_law_102 : decode cL_law 102 = .ok (.iload 6, 2) := by decide +kernel
theorem dL_law_104 : decode cL_law 104 = .ok (.invokestatic 123, 3) := by decide +kernel
theorem dL_law_107 : decode cL_law 107 = .ok (.istore 7, 2) := by decide +kernel
theorem dL_law_109 : decode cL_law 109 = .ok (.iload 7, 2) := by decide +kernel
theorem dL_law_111 : decode cL_law 111 = .ok (.bipush 9, 2) := by decide +kernel
theorem dL_law_113 : decode cL_law 113 = .ok (.invokestatic 49, 3) := by decide +kernel
theorem dL_law_116 : decode cL_law 116 = .ok (.istore 8, 2) := by decide +kernel
theorem dL_law_118 : decode cL_law 118 = .ok (.iconst 1, 1) := by decide +kernel
theorem dL_law_119 : decode cL_law 119 = .ok (.istore 9, 2) := by decide +kernel
theorem dL_law_121 : decode cL_law 121 = .ok (.iload 5, 2) := by decide +kernel
theorem dL_law_123 : decode cL_law 123 = .ok (.ifCond .eq 14, 3) := by decide +kernel
theorem dL_law_126 : decode cL_law 126 = .ok (.iload 8, 2) := by decide +kernel
theorem dL_law_128 : decode cL_law 128 = .ok (.ifCond .ne 121, 3) := by decide +kernel
theorem dL_law_131 : decode cL_law 131 = .ok (.iload 5, 2) := by decide +kernel
theorem dL_law_133 : decode cL_law 133 = .ok (.iconst 3, 1) := by decide +kernel
theorem dL_law_134 : decode cL_law 134 = .ok (.if_icmp .ge 115, 3) := by decide +kernel
theorem dL_law_137 : decode cL_law 137 = .ok (.aload_n 3, 1) := by decide +kernel
theorem dL_law_138 : decode cL_law 138 = .ok (.bipush 8, 2) := by decide +kernel
theorem dL_law_140 : decode cL_law 140 = .ok (.iload 5, 2) := by decide +kernel
theorem dL_law_142 : decode cL_law 142 = .ok (.imul, 1) := by decide +kernel
theorem dL_law_143 : decode cL_law 143 = .ok (.iload 7, 2) := by decide +kernel
theorem dL_law_145 : decode cL_law 145 = .ok (.iconst 4, 1) := by decide +kernel
theorem dL_law_146 : decode cL_law 146 = .ok (.ishr, 1) := by decide +kernel
theorem dL_law_147 : decode cL_law 147 = .ok (.iconst 4, 1) := by decide +kernel
theorem dL_law_148 : decode cL_law 148 = .ok (.invokestatic 49, 3) := by decide +kernel
theorem dL_law_151 : decode cL_law 151 = .ok (.iastore, 1) := by decide +kernel
theorem dL_law_152 : decode cL_law 152 = .ok (.aload_n 3, 1) := by decide +kernel
theorem dL_law_153 : decode cL_law 153 = .ok (.bipush 8, 2) := by decide +kernel
theorem dL_law_155 : decode cL_law 155 = .ok (.iload 5, 2) := by decide +kernel
theorem dL_law_157 : decode cL_law 157 = .ok (.imul, 1) := by decide +kernel
theorem dL_law_158 : decode cL_law 158 = .ok (.iconst 1, 1) := by decide +kernel
theorem dL_law_159 : decode cL_law 159 = .ok (.iadd, 1) := by decide +kernel
theorem dL_law_160 : decode cL_law 160 = .ok (.aload_n 3, 1) := by decide +kernel
theorem dL_law_161 : decode cL_law 161 = .ok (.bipush 8, 2) := by decide +kernel
theorem dL_law_163 : decode cL_law 163 = .ok (.iload 5, 2) := by decide +kernel
theorem dL_law_165 : decode cL_law 165 = .ok (.imul, 1) := by decide +kernel
theorem dL_law_166 : decode cL_law 166 = .ok (.iaload, 1) := by decide +kernel
theorem dL_law_167 : decode cL_law 167 = .ok (.iconst 1, 1) := by decide +kernel
theorem dL_law_168 : decode cL_law 168 = .ok (.iadd, 1) := by decide +kernel
theorem dL_law_169 : decode cL_law 169 = .ok (.iload 7, 2) := by decide +kernel
theorem dL_law_171 : decode cL_law 171 = .ok (.bipush 6, 2) := by decide +kernel
theorem dL_law_173 : decode cL_law 173 = .ok (.ishr, 1) := by decide +kernel
theorem dL_law_174 : decode cL_law 174 = .ok (.iconst 3, 1) := by decide +kernel
theorem dL_law_175 : decode cL_law 175 = .ok (.invokestatic 49, 3) := by decide +kernel
theorem dL_law_178 : decode cL_law 178 = .ok (.iadd, 1) := by decide +kernel
theorem dL_law_179 : decode cL_law 179 = .ok (.iconst 4, 1) := by decide +kernel
theorem dL_law_180 : decode cL_law 180 = .ok (.irem, 1) := by decide +kernel
theorem dL_law_181 : decode cL_law 181 = .ok (.iastore, 1) := by decide +kernel
theorem dL_law_182 : decode cL_law 182 = .ok (.aload_n 3, 1) := by decide +kernel
theorem dL_law_183 : decode cL_law 183 = .ok (.bipush 8, 2) := by decide +kernel
theorem dL_law_185 : decode cL_law 185 = .ok (.iload 5, 2) := by decide +kernel
theorem dL_law_187 : decode cL_law 187 = .ok (.imul, 1) := by decide +kernel
theorem dL_law_188 : decode cL_law 188 = .ok (.iconst 2, 1) := by decide +kernel
theorem dL_law_189 : decode cL_law 189 = .ok (.iadd, 1) := by decide +kernel
theorem dL_law_190 : decode cL_law 190 = .ok (.iload 7, 2) := by decide +kernel
theorem dL_law_192 : decode cL_law 192 = .ok (.bipush 8, 2) := by decide +kernel
theorem dL_law_194 : decode cL_law 194 = .ok (.ishr, 1) := by decide +kernel
theorem dL_law_195 : decode cL_law 195 = .ok (.sipush 9000, 3) := by decide +kernel
theorem dL_law_198 : decode cL_law 198 = .ok (.invokestatic 49, 3) := by decide +kernel
theorem dL_law_201 : decode cL_law 201 = .ok (.iastore, 1) := by decide +kernel
theorem dL_law_202 : decode cL_law 202 = .ok (.aload_n 1, 1) := by decide +kernel
theorem dL_law_203 : decode cL_law 203 = .ok (.aload_n 3, 1) := by decide +kernel
theorem dL_law_204 : decode cL_law 204 = .ok (.bipush 8, 2) := by decide +kernel
theorem dL_law_206 : decode cL_law 206 = .ok (.iload 5, 2) := by decide +kernel
theorem dL_law_208 : decode cL_law 208 = .ok (.imul, 1) := by decide +kernel
theorem dL_law_209 : decode cL_law 209 = .ok (.iaload, 1) := by decide +kernel
theorem dL_law_210 : decode cL_law 210 = .ok (.aload_n 3, 1) := by decide +kernel
theorem dL_law_211 : decode cL_law 211 = .ok (.bipush 8, 2) := by decide +kernel
theorem dL_law_213 : decode cL_law 213 = .ok (.iload 5, 2) := by decide +kernel
theorem dL_law_215 : decode cL_law 215 = .ok (.imul, 1) := by decide +kernel
theorem dL_law_216 : decode cL_law 216 = .ok (.iconst 1, 1) := by decide +kernel
theorem dL_law_217 : decode cL_law 217 = .ok (.iadd, 1) := by decide +kernel
theorem dL_law_218 : decode cL_law 218 = .ok (.iaload, 1) := by decide +kernel
theorem dL_law_219 : decode cL_law 219 = .ok (.aload_n 3, 1) := by decide +kernel
theorem dL_law_220 : decode cL_law 220 = .ok (.bipush 8, 2) := by decide +kernel
theorem dL_law_222 : decode cL_law 222 = .ok (.iload 5, 2) := by decide +kernel
theorem dL_law_224 : decode cL_law 224 = .ok (.imul, 1) := by decide +kernel
theorem dL_law_225 : decode cL_law 225 = .ok (.iconst 2, 1) := by decide +kernel
theorem dL_law_226 : decode cL_law 226 = .ok (.iadd, 1) := by decide +kernel
theorem dL_law_227 : decode cL_law 227 = .ok (.iaload, 1) := by decide +kernel
theorem dL_law_228 : decode cL_law 228 = .ok (.invokevirtual 127, 3) := by decide +kernel
theorem dL_law_231 : decode cL_law 231 = .ok (.iload 5, 2) := by decide +kernel
theorem dL_law_233 : decode cL_law 233 = .ok (.if_icmp .ne 7, 3) := by decide +kernel
theorem dL_law_236 : decode cL_law 236 = .ok (.iconst 1, 1) := by decide +kernel
theorem dL_law_237 : decode cL_law 237 = .ok (.goto 4, 3) := by decide +kernel
theorem dL_law_240 : decode cL_law 240 = .ok (.iconst 0, 1) := by decide +kernel
theorem dL_law_241 : decode cL_law 241 = .ok (.istore 9, 2) := by decide +kernel
theorem dL_law_243 : decode cL_law 243 = .ok (.iinc 5 1, 3) := by decide +kernel
theorem dL_law_246 : decode cL_law 246 = .ok (.goto 61, 3) := by decide +kernel
theorem dL_law_249 : decode cL_law 249 = .ok (.iload 8, 2) := by decide +kernel
theorem dL_law_251 : decode cL_law 251 = .ok (.iconst 3, 1) := by decide +kernel
theorem dL_law_252 : decode cL_law 252 = .ok (.if_icmp .ge 17, 3) := by decide +kernel
theorem dL_law_255 : decode cL_law 255 = .ok (.aload_n 1, 1) := by decide +kernel
theorem dL_law_256 : decode cL_law 256 = .ok (.iload 7, 2) := by decide +kernel
theorem dL_law_258 : decode cL_law 258 = .ok (.iconst 4, 1) := by decide +kernel
theorem dL_law_259 : decode cL_law 259 = .ok (.ishr, 1) := by decide +kernel
theorem dL_law_260 : decode cL_law 260 = .ok (.aload_n 2, 1) := by decide +kernel
theorem dL_law_261 : decode cL_law 261 = .ok (.invokestatic 130, 3) := by decide +kernel
theorem dL_law_264 : decode cL_law 264 = .ok (.istore 9, 2) := by decide +kernel
theorem dL_law_266 : decode cL_law 266 = .ok (.goto 41, 3) := by decide +kernel
theorem dL_law_269 : decode cL_law 269 = .ok (.aload_n 1, 1) := by decide +kernel
theorem dL_law_270 : decode cL_law 270 = .ok (.iload 8, 2) := by decide +kernel
theorem dL_law_272 : decode cL_law 272 = .ok (.bipush 6, 2) := by decide +kernel
theorem dL_law_274 : decode cL_law 274 = .ok (.if_icmp .le 7, 3) := by decide +kernel
theorem dL_law_277 : decode cL_law 277 = .ok (.iconst 3, 1) := by decide +kernel
theorem dL_law_278 : decode cL_law 278 = .ok (.goto 7, 3) := by decide +kernel
theorem dL_law_281 : decode cL_law 281 = .ok (.iload 8, 2) := by decide +kernel
theorem dL_law_283 : decode cL_law 283 = .ok (.iconst 3, 1) := by decide +kernel
theorem dL_law_284 : decode cL_law 284 = .ok (.isub, 1) := by decide +kernel
theorem dL_law_285 : decode cL_law 285 = .ok (.iload 7, 2) := by decide +kernel
theorem dL_law_287 : decode cL_law 287 = .ok (.iconst 4, 1) := by decide +kernel
theorem dL_law_288 : decode cL_law 288 = .ok (.ishr, 1) := by decide +kernel
theorem dL_law_289 : decode cL_law 289 = .ok (.iload 5, 2) := by decide +kernel
theorem dL_law_291 : decode cL_law 291 = .ok (.invokestatic 49, 3) := by decide +kernel
theorem dL_law_294 : decode cL_law 294 = .ok (.iload 7, 2) := by decide +kernel
theorem dL_law_296 : decode cL_law 296 = .ok (.bipush 6, 2) := by decide +kernel
theorem dL_law_298 : decode cL_law 298 = .ok (.ishr, 1) := by decide +kernel
theorem dL_law_299 : decode cL_law 299 = .ok (.aload_n 3, 1) := by decide +kernel
theorem dL_law_300 : decode cL_law 300 = .ok (.aload 4, 2) := by decide +kernel
theorem dL_law_302 : decode cL_law 302 = .ok (.invokestatic 134, 3) := by decide +kernel
theorem dL_law_305 : decode cL_law 305 = .ok (.istore 9, 2) := by decide +kernel
theorem dL_law_307 : decode cL_law 307 = .ok (.iload 9, 2) := by decide +kernel
theorem dL_law_309 : decode cL_law 309 = .ok (.ifCond .eq 37, 3) := by decide +kernel
theorem dL_law_312 : decode cL_law 312 = .ok (.aload_n 1, 1) := by decide +kernel
theorem dL_law_313 : decode cL_law 313 = .ok (.invokevirtual 138, 3) := by decide +kernel
theorem dL_law_316 : decode cL_law 316 = .ok (.iload 5, 2) := by decide +kernel
theorem dL_law_318 : decode cL_law 318 = .ok (.if_icmp .ne 28, 3) := by decide +kernel
theorem dL_law_321 : decode cL_law 321 = .ok (.aload_n 1, 1) := by decide +kernel
theorem dL_law_322 : decode cL_law 322 = .ok (.iload 7, 2) := by decide +kernel
theorem dL_law_324 : decode cL_law 324 = .ok (.iconst 2, 1) := by decide +kernel
theorem dL_law_325 : decode cL_law 325 = .ok (.ishr, 1) := by decide +kernel
theorem dL_law_326 : decode cL_law 326 = .ok (.aload_n 2, 1) := by decide +kernel
theorem dL_law_327 : decode cL_law 327 = .ok (.invokestatic 141, 3) := by decide +kernel
theorem dL_law_330 : decode cL_law 330 = .ok (.ifCond .eq 16, 3) := by decide +kernel
theorem dL_law_333 : decode cL_law 333 = .ok (.aload_n 1, 1) := by decide +kernel
theorem dL_law_334 : decode cL_law 334 = .ok (.iload 5, 2) := by decide +kernel
theorem dL_law_336 : decode cL_law 336 = .ok (.invokestatic 144, 3) := by decide +kernel
theorem dL_law_339 : decode cL_law 339 = .ok (.ifCond .eq 7, 3) := by decide +kernel
theorem dL_law_342 : decode cL_law 342 = .ok (.iconst 1, 1) := by decide +kernel
theorem dL_law_343 : decode cL_law 343 = .ok (.goto 4, 3) := by decide +kernel
theorem dL_law_346 : decode cL_law 346 = .ok (.iconst 0, 1) := by decide +kernel
theorem dL_law_347 : decode cL_law 347 = .ok (.istore 9, 2) := by decide +kernel
theorem dL_law_349 : decode cL_law 349 = .ok (.iconst 0, 1) := by decide +kernel
theorem dL_law_350 : decode cL_law 350 = .ok (.istore 10, 2) := by decide +kernel
theorem dL_law_352 : decode cL_law 352 = .ok (.iload 10, 2) := by decide +kernel
theorem dL_law_354 : decode cL_law 354 = .ok (.iload 5, 2) := by decide +kernel
theorem dL_law_356 : decode cL_law 356 = .ok (.if_icmp .ge 30, 3) := by decide +kernel
theorem dL_law_359 : decode cL_law 359 = .ok (.iload 9, 2) := by decide +kernel
theorem dL_law_361 : decode cL_law 361 = .ok (.ifCond .eq 25, 3) := by decide +kernel
theorem dL_law_364 : decode cL_law 364 = .ok (.aload_n 1, 1) := by decide +kernel
theorem dL_law_365 : decode cL_law 365 = .ok (.iload 10, 2) := by decide +kernel
theorem dL_law_367 : decode cL_law 367 = .ok (.iload 7, 2) := by decide +kernel
theorem dL_law_369 : decode cL_law 369 = .ok (.iconst 3, 1) := by decide +kernel
theorem dL_law_370 : decode cL_law 370 = .ok (.ishr, 1) := by decide +kernel
theorem dL_law_371 : decode cL_law 371 = .ok (.aload_n 2, 1) := by decide +kernel
theorem dL_law_372 : decode cL_law 372 = .ok (.aload_n 3, 1) := by decide +kernel
theorem dL_law_373 : decode cL_law 373 = .ok (.aload 4, 2) := by decide +kernel
theorem dL_law_375 : decode cL_law 375 = .ok (.invokestatic 147, 3) := by decide +kernel
theorem dL_law_378 : decode cL_law 378 = .ok (.istore 9, 2) := by decide +kernel
theorem dL_law_380 : decode cL_law 380 = .ok (.iinc 10 1, 3) := by decide +kernel
theorem dL_law_383 : decode cL_law 383 = .ok (.goto (-31), 3) := by decide +kernel
theorem dL_law_386 : decode cL_law 386 = .ok (.iload 9, 2) := by decide +kernel
theorem dL_law_388 : decode cL_law 388 = .ok (.ifCond .ne 5, 3) := by decide +kernel
theorem dL_law_391 : decode cL_law 391 = .ok (.iconst 0, 1) := by decide +kernel
theorem dL_law_392 : decode cL_law 392 = .ok (.ireturn, 1) := by decide +kernel
theorem dL_law_393 : decode cL_law 393 = .ok (.iinc 6 1, 3) := by decide +kernel
theorem dL_law_396 : decode cL_law 396 = .ok (.goto (-302), 3) := by decide +kernel
theorem dL_law_399 : decode cL_law 399 = .ok (.iconst 1, 1) := by decide +kernel
theorem dL_law_400 : decode cL_law 400 = .ok (.ireturn, 1) := by decide +kernel
abbrev vwCl : List vw_C := [(RJx4a65c, TJx4a65c, 3), (RX0, TX0, 3), (RX1, TX1, 5), (RX2, TX2, 8), (RX3, TX3, 2)]
