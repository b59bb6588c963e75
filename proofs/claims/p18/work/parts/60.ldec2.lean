/-! The law's decodes -/
theorem dL_law_0 : decode cL_law 0 = .ok (.new 9, 3) := by decide +kernel
theorem dL_law_3 : decode cL_law 3 = .ok (.dup, 1) := by decide +kernel
theorem dL_law_4 : decode cL_law 4 = .ok (.invokespecial 107, 3) := by decide +kernel
theorem dL_law_7 : decode cL_law 7 = .ok (.astore_n 1, 1) := by decide +kernel
theorem dL_law_8 : decode cL_law 8 = .ok (.bipush 48, 2) := by decide +kernel
theorem dL_law_10 : decode cL_law 10 = .ok (.newarray .int, 2) := by decide +kernel
theorem dL_law_12 : decode cL_law 12 = .ok (.astore_n 2, 1) := by decide +kernel
theorem dL_law_13 : decode cL_law 13 = .ok (.bipush 60, 2) := by decide +kernel
theorem dL_law_15 : decode cL_law 15 = .ok (.newarray .int, 2) := by decide +kernel
theorem dL_law_17 : decode cL_law 17 = .ok (.astore_n 3, 1) := by decide +kernel
theorem dL_law_18 : decode cL_law 18 = .ok (.bipush 60, 2) := by decide +kernel
theorem dL_law_20 : decode cL_law 20 = .ok (.newarray .int, 2) := by decide +kernel
theorem dL_law_22 : decode cL_law 22 = .ok (.astore 4, 2) := by decide +kernel
theorem dL_law_24 : decode cL_law 24 = .ok (.bipush 36, 2) := by decide +kernel
theorem dL_law_26 : decode cL_law 26 = .ok (.newarray .int, 2) := by decide +kernel
theorem dL_law_28 : decode cL_law 28 = .ok (.astore 5, 2) := by decide +kernel
theorem dL_law_30 : decode cL_law 30 = .ok (.bipush 36, 2) := by decide +kernel
theorem dL_law_32 : decode cL_law 32 = .ok (.newarray .int, 2) := by decide +kernel
theorem dL_law_34 : decode cL_law 34 = .ok (.astore 6, 2) := by decide +kernel
theorem dL_law_36 : decode cL_law 36 = .ok (.bipush 36, 2) := by decide +kernel
theorem dL_law_38 : decode cL_law 38 = .ok (.newarray .int, 2) := by decide +kernel
theorem dL_law_40 : decode cL_law 40 = .ok (.astore 7, 2) := by decide +kernel
theorem dL_law_42 : decode cL_law 42 = .ok (.bipush 36, 2) := by decide +kernel
theorem dL_law_44 : decode cL_law 44 = .ok (.newarray .int, 2) := by decide +kernel
theorem dL_law_46 : decode cL_law 46 = .ok (.astore 8, 2) := by decide +kernel
theorem dL_law_48 : decode cL_law 48 = .ok (.bipush 36, 2) := by decide +kernel
theorem dL_law_50 : decode cL_law 50 = .ok (.newarray .int, 2) := by decide +kernel
theorem dL_law_52 : decode cL_law 52 = .ok (.astore 9, 2) := by decide +kernel
theorem dL_law_54 : decode cL_law 54 = .ok (.bipush 60, 2) := by decide +kernel
theorem dL_law_56 : decode cL_law 56 = .ok (.newarray .int, 2) := by decide +kernel
theorem dL_law_58 : decode cL_law 58 = .ok (.astore 10, 2) := by decide +kernel
theorem dL_law_60 : decode cL_law 60 = .ok (.bipush 9, 2) := by decide +kernel
theorem dL_law_62 : decode cL_law 62 = .ok (.newarray .int, 2) := by decide +kernel
theorem dL_law_64 : decode cL_law 64 = .ok (.astore 11, 2) := by decide +kernel
theorem dL_law_66 : decode cL_law 66 = .ok (.iconst 0, 1) := by decide +kernel
theorem dL_law_67 : decode cL_law 67 = .ok (.istore 12, 2) := by decide +kernel
theorem dL_law_69 : decode cL_law 69 = .ok (.iload 12, 2) := by decide +kernel
theorem dL_law_71 : decode cL_law 71 = .ok (.iconst 4, 1) := by decide +kernel
theorem dL_law_72 : decode cL_law 72 = .ok (.if_icmp .ge 18, 3) := by decide +kernel
theorem dL_law_75 : decode cL_law 75 = .ok (.aload 11, 2) := by decide +kernel
theorem dL_law_77 : decode cL_law 77 = .ok (.iconst 5, 1) := by decide +kernel
theorem dL_law_78 : decode cL_law 78 = .ok (.iload 12, 2) := by decide +kernel
theorem dL_law_80 : decode cL_law 80 = .ok (.iadd, 1) := by decide +kernel
theorem dL_law_81 : decode cL_law 81 = .ok (.bipush 10, 2) := by decide +kernel
theorem dL_law_83 : decode cL_law 83 = .ok (.iastore, 1) := by decide +kernel
theorem dL_law_84 : decode cL_law 84 = .ok (.iinc 12 1, 3) := by decide +kernel
theorem dL_law_87 : decode cL_law 87 = .ok (.goto (-18), 3) := by decide +kernel
theorem dL_law_90 : decode cL_law 90 = .ok (.aload_n 1, 1) := by decide +kernel
theorem dL_law_91 : decode cL_law 91 = .ok (.iconst 2, 1) := by decide +kernel
theorem dL_law_92 : decode cL_law 92 = .ok (.iconst 0, 1) := by decide +kernel
theorem dL_law_93 : decode cL_law 93 = .ok (.iconst 1, 1) := by decide +kernel
theorem dL_law_94 : decode cL_law 94 = .ok (.iconst 0, 1) := by decide +kernel
theorem dL_law_95 : decode cL_law 95 = .ok (.invokestatic 95, 3) := by decide +kernel
theorem dL_law_98 : decode cL_law 98 = .ok (.ldc 64, 2) := by decide +kernel
theorem dL_law_100 : decode cL_law 100 = .ok (.if_icmp .ne 90, 3) := by decide +kernel
theorem dL_law_103 : decode cL_law 103 = .ok (.aload_n 1, 1) := by decide +kernel
theorem dL_law_104 : decode cL_law 104 = .ok (.iconst 1, 1) := by decide +kernel
theorem dL_law_105 : decode cL_law 105 = .ok (.iconst 4, 1) := by decide +kernel
theorem dL_law_106 : decode cL_law 106 = .ok (.iconst 0, 1) := by decide +kernel
theorem dL_law_107 : decode cL_law 107 = .ok (.iconst 0, 1) := by decide +kernel
theorem dL_law_108 : decode cL_law 108 = .ok (.invokestatic 95, 3) := by decide +kernel
theorem dL_law_111 : decode cL_law 111 = .ok (.ldc 64, 2) := by decide +kernel
theorem dL_law_113 : decode cL_law 113 = .ok (.if_icmp .ne 77, 3) := by decide +kernel
theorem dL_law_116 : decode cL_law 116 = .ok (.aload_n 1, 1) := by decide +kernel
theorem dL_law_117 : decode cL_law 117 = .ok (.iconst 1, 1) := by decide +kernel
theorem dL_law_118 : decode cL_law 118 = .ok (.iconst 0, 1) := by decide +kernel
theorem dL_law_119 : decode cL_law 119 = .ok (.bipush 51, 2) := by decide +kernel
theorem dL_law_121 : decode cL_law 121 = .ok (.iconst 0, 1) := by decide +kernel
theorem dL_law_122 : decode cL_law 122 = .ok (.invokestatic 95, 3) := by decide +kernel
theorem dL_law_125 : decode cL_law 125 = .ok (.ldc 67, 2) := by decide +kernel
theorem dL_law_127 : decode cL_law 127 = .ok (.if_icmp .ne 63, 3) := by decide +kernel
theorem dL_law_130 : decode cL_law 130 = .ok (.aload_n 1, 1) := by decide +kernel
theorem dL_law_131 : decode cL_law 131 = .ok (.bipush 9, 2) := by decide +kernel
theorem dL_law_133 : decode cL_law 133 = .ok (.iconst 0, 1) := by decide +kernel
theorem dL_law_134 : decode cL_law 134 = .ok (.iconst 0, 1) := by decide +kernel
theorem dL_law_135 : decode cL_law 135 = .ok (.iconst 0, 1) := by decide +kernel
theorem dL_law_136 : decode cL_law 136 = .ok (.invokestatic 95, 3) := by decide +kernel
theorem dL_law_139 : decode cL_law 139 = .ok (.ldc 67, 2) := by decide +kernel
theorem dL_law_141 : decode cL_law 141 = .ok (.if_icmp .ne 49, 3) := by decide +kernel
theorem dL_law_144 : decode cL_law 144 = .ok (.aload_n 1, 1) := by decide +kernel
theorem dL_law_145 : decode cL_law 145 = .ok (.bipush 6, 2) := by decide +kernel
theorem dL_law_147 : decode cL_law 147 = .ok (.iconst 0, 1) := by decide +kernel
theorem dL_law_148 : decode cL_law 148 = .ok (.iconst 0, 1) := by decide +kernel
theorem dL_law_149 : decode cL_law 149 = .ok (.iconst 0, 1) := by decide +kernel
theorem dL_law_150 : decode cL_law 150 = .ok (.invokestatic 95, 3) := by decide +kernel
theorem dL_law_153 : decode cL_law 153 = .ok (.ldc 64, 2) := by decide +kernel
theorem dL_law_155 : decode cL_law 155 = .ok (.if_icmp .ne 35, 3) := by decide +kernel
theorem dL_law_158 : decode cL_law 158 = .ok (.aload_n 1, 1) := by decide +kernel
theorem dL_law_159 : decode cL_law 159 = .ok (.bipush 14, 2) := by decide +kernel
theorem dL_law_161 : decode cL_law 161 = .ok (.iconst 0, 1) := by decide +kernel
theorem dL_law_162 : decode cL_law 162 = .ok (.iconst 0, 1) := by decide +kernel
theorem dL_law_163 : decode cL_law 163 = .ok (.iconst 0, 1) := by decide +kernel
theorem dL_law_164 : decode cL_law 164 = .ok (.invokestatic 95, 3) := by decide +kernel
theorem dL_law_167 : decode cL_law 167 = .ok (.ldc 64, 2) := by decide +kernel
theorem dL_law_169 : decode cL_law 169 = .ok (.if_icmp .ne 21, 3) := by decide +kernel
theorem dL_law_172 : decode cL_law 172 = .ok (.aload_n 1, 1) := by decide +kernel
theorem dL_law_173 : decode cL_law 173 = .ok (.bipush 11, 2) := by decide +kernel
theorem dL_law_175 : decode cL_law 175 = .ok (.iconst 1, 1) := by decide +kernel
theorem dL_law_176 : decode cL_law 176 = .ok (.iconst 0, 1) := by decide +kernel
theorem dL_law_177 : decode cL_law 177 = .ok (.iconst 0, 1) := by decide +kernel
theorem dL_law_178 : decode cL_law 178 = .ok (.invokestatic 95, 3) := by decide +kernel
theorem dL_law_181 : decode cL_law 181 = .ok (.ldc 64, 2) := by decide +kernel
theorem dL_law_183 : decode cL_law 183 = .ok (.if_icmp .ne 7, 3) := by decide +kernel
theorem dL_law_186 : decode cL_law 186 = .ok (.iconst 1, 1) := by decide +kernel
theorem dL_law_187 : decode cL_law 187 = .ok (.goto 4, 3) := by decide +kernel
theorem dL_law_190 : decode cL_law 190 = .ok (.iconst 0, 1) := by decide +kernel
theorem dL_law_191 : decode cL_law 191 = .ok (.istore 12, 2) := by decide +kernel
theorem dL_law_193 : decode cL_law 193 = .ok (.iconst 0, 1) := by decide +kernel
theorem dL_law_194 : decode cL_law 194 = .ok (.istore 13, 2) := by decide +kernel
theorem dL_law_196 : decode cL_law 196 = .ok (.iload 13, 2) := by decide +kernel
theorem dL_law_198 : decode cL_law 198 = .ok (.bipush 64, 2) := by decide +kernel
theorem dL_law_200 : decode cL_law 200 = .ok (.if_icmp .ge 1109, 3) := by decide +kernel
theorem dL_law_203 : decode cL_law 203 = .ok (.iload 12, 2) := by decide +kernel
theorem dL_law_205 : decode cL_law 205 = .ok (.ifCond .eq 1104, 3) := by decide +kernel
theorem dL_law_208 : decode cL_law 208 = .ok (.iload 13, 2) := by decide +kernel
theorem dL_law_210 : decode cL_law 210 = .ok (.iconst 5, 1) := by decide +kernel
theorem dL_law_211 : decode cL_law 211 = .ok (.if_icmp .ge 7, 3) := by decide +kernel
theorem dL_law_214 : decode cL_law 214 = .ok (.iconst 0, 1) := by decide +kernel
theorem dL_law_215 : decode cL_law 215 = .ok (.goto 24, 3) := by decide +kernel
theorem dL_law_218 : decode cL_law 218 = .ok (.iload 13, 2) := by decide +kernel
theorem dL_law_220 : decode cL_law 220 = .ok (.bipush 9, 2) := by decide +kernel
theorem dL_law_222 : decode cL_law 222 = .ok (.if_icmp .ge 7, 3) := by decide +kernel
theorem dL_law_225 : decode cL_law 225 = .ok (.iconst 1, 1) := by decide +kernel
theorem dL_law_226 : decode cL_law 226 = .ok (.goto 13, 3) := by decide +kernel
theorem dL_law_229 : decode cL_law 229 = .ok (.aload_n 0, 1) := by decide +kernel
theorem dL_law_230 : decode cL_law 230 = .ok (.iconst 3, 1) := by decide +kernel
theorem dL_law_231 : decode cL_law 231 = .ok (.iload 13, 2) := by decide +kernel
theorem dL_law_233 : decode cL_law 233 = .ok (.imul, 1) := by decide +kernel
theorem dL_law_234 : decode cL_law 234 = .ok (.bipush 32, 2) := by decide +kernel
theorem dL_law_236 : decode cL_law 236 = .ok (.invokestatic 108, 3) := by decide +kernel
theorem dL_law_239 : decode cL_law 239 = .ok (.istore 14, 2) := by decide +kernel
theorem dL_law_241 : decode cL_law 241 = .ok (.aload_n 0, 1) := by decide +kernel
theorem dL_law_242 : decode cL_law 242 = .ok (.iconst 3, 1) := by decide +kernel
theorem dL_law_243 : decode cL_law 243 = .ok (.iload 13, 2) := by decide +kernel
theorem dL_law_245 : decode cL_law 245 = .ok (.imul, 1) := by decide +kernel
theorem dL_law_246 : decode cL_law 246 = .ok (.iconst 1, 1) := by decide +kernel
theorem dL_law_247 : decode cL_law 247 = .ok (.iadd, 1) := by decide +kernel
theorem dL_law_248 : decode cL_law 248 = .ok (.ldc 112, 2) := by decide +kernel
theorem dL_law_250 : decode cL_law 250 = .ok (.invokestatic 108, 3) := by decide +kernel
theorem dL_law_253 : decode cL_law 253 = .ok (.istore 15, 2) := by decide +kernel
theorem dL_law_255 : decode cL_law 255 = .ok (.aload_n 0, 1) := by decide +kernel
theorem dL_law_256 : decode cL_law 256 = .ok (.iconst 3, 1) := by decide +kernel
theorem dL_law_257 : decode cL_law 257 = .ok (.iload 13, 2) := by decide +kernel
theorem dL_law_259 : decode cL_law 259 = .ok (.imul, 1) := by decide +kernel
theorem dL_law_260 : decode cL_law 260 = .ok (.iconst 2, 1) := by decide +kernel
theorem dL_law_261 : decode cL_law 261 = .ok (.iadd, 1) := by decide +kernel
theorem dL_law_262 : decode cL_law 262 = .ok (.ldc 112, 2) := by decide +kernel
theorem dL_law_264 : decode cL_law 264 = .ok (.invokestatic 108, 3) := by decide +kernel
theorem dL_law_267 : decode cL_law 267 = .ok (.istore 16, 2) := by decide +kernel
theorem dL_law_269 : decode cL_law 269 = .ok (.iload 15, 2) := by decide +kernel
theorem dL_law_271 : decode cL_law 271 = .ok (.aload 11, 2) := by decide +kernel
theorem dL_law_273 : decode cL_law 273 = .ok (.iconst 1, 1) := by decide +kernel
theorem dL_law_274 : decode cL_law 274 = .ok (.iaload, 1) := by decide +kernel
theorem dL_law_275 : decode cL_law 275 = .ok (.iconst 1, 1) := by decide +kernel
theorem dL_law_276 : decode cL_law 276 = .ok (.iadd, 1) := by decide +kernel
theorem dL_law_277 : decode cL_law 277 = .ok (.irem, 1) := by decide +kernel
theorem dL_law_278 : decode cL_law 278 = .ok (.istore 17, 2) := by decide +kernel
theorem dL_law_280 : decode cL_law 280 = .ok (.iload 17, 2) := by decide +kernel
theorem dL_law_282 : decode cL_law 282 = .ok (.aload 11, 2) := by decide +kernel
theorem dL_law_284 : decode cL_law 284 = .ok (.iconst 1, 1) := by decide +kernel
theorem dL_law_285 : decode cL_law 285 = .ok (.iaload, 1) := by decide +kernel
theorem dL_law_286 : decode cL_law 286 = .ok (.if_icmp .ge 7, 3) := by decide +kernel
theorem dL_law_289 : decode cL_law 289 = .ok (.iconst 1, 1) := by decide +kernel
theorem dL_law_290 : decode cL_law 290 = .ok (.goto 4, 3) := by decide +kernel
theorem dL_law_293 : decode cL_law 293 = .ok (.iconst 0, 1) := by decide +kernel
theorem dL_law_294 : decode cL_law 294 = .ok (.istore 18, 2) := by decide +kernel
theorem dL_law_296 : decode cL_law 296 = .ok (.iload 14, 2) := by decide +kernel
theorem dL_law_298 : decode cL_law 298 = .ok (.ifCond .ne 76, 3) := by decide +kernel
theorem dL_law_301 : decode cL_law 301 = .ok (.aload 11, 2) := by decide +kernel
theorem dL_law_303 : decode cL_law 303 = .ok (.iconst 1, 1) := by decide +kernel
theorem dL_law_304 : decode cL_law 304 = .ok (.iaload, 1) := by decide +kernel
theorem dL_law_305 : decode cL_law 305 = .ok (.bipush 16, 2) := by decide +kernel
theorem dL_law_307 : decode cL_law 307 = .ok (.if_icmp .ge 7, 3) := by decide +kernel
theorem dL_law_310 : decode cL_law 310 = .ok (.iconst 1, 1) := by decide +kernel
theorem dL_law_311 : decode cL_law 311 = .ok (.goto 4, 3) := by decide +kernel
theorem dL_law_314 : decode cL_law 314 = .ok (.iconst 0, 1) := by decide +kernel
theorem dL_law_315 : decode cL_law 315 = .ok (.istore 19, 2) := by decide +kernel
theorem dL_law_317 : decode cL_law 317 = .ok (.iload 19, 2) := by decide +kernel
theorem dL_law_319 : decode cL_law 319 = .ok (.ifCond .eq 18, 3) := by decide +kernel
theorem dL_law_322 : decode cL_law 322 = .ok (.aload_n 2, 1) := by decide +kernel
theorem dL_law_323 : decode cL_law 323 = .ok (.aload 11, 2) := by decide +kernel
theorem dL_law_325 : decode cL_law 325 = .ok (.iconst 1, 1) := by decide +kernel
theorem dL_law_326 : decode cL_law 326 = .ok (.iaload, 1) := by decide +kernel
theorem dL_law_327 : decode cL_law 327 = .ok (.iconst (-1), 1) := by decide +kernel
theorem dL_law_328 : decode cL_law 328 = .ok (.iastore, 1) := by decide +kernel
theorem dL_law_329 : decode cL_law 329 = .ok (.aload 11, 2) := by decide +kernel
theorem dL_law_331 : decode cL_law 331 = .ok (.iconst 1, 1) := by decide +kernel
theorem dL_law_332 : decode cL_law 332 = .ok (.dup2, 1) := by decide +kernel
theorem dL_law_333 : decode cL_law 333 = .ok (.iaload, 1) := by decide +kernel
theorem dL_law_334 : decode cL_law 334 = .ok (.iconst 1, 1) := by decide +kernel
theorem dL_law_335 : decode cL_law 335 = .ok (.iadd, 1) := by decide +kernel
theorem dL_law_336 : decode cL_law 336 = .ok (.iastore, 1) := by decide +kernel
theorem dL_law_337 : decode cL_law 337 = .ok (.aload_n 1, 1) := by decide +kernel
theorem dL_law_338 : decode cL_law 338 = .ok (.iconst 0, 1) := by decide +kernel
theorem dL_law_339 : decode cL_law 339 = .ok (.iconst 0, 1) := by decide +kernel
theorem dL_law_340 : decode cL_law 340 = .ok (.iconst 0, 1) := by decide +kernel
theorem dL_law_341 : decode cL_law 341 = .ok (.iconst 0, 1) := by decide +kernel
theorem dL_law_342 : decode cL_law 342 = .ok (.invokestatic 95, 3) := by decide +kernel
theorem dL_law_345 : decode cL_law 345 = .ok (.iload 19, 2) := by decide +kernel
theorem dL_law_347 : decode cL_law 347 = .ok (.ifCond .eq 12, 3) := by decide +kernel
theorem dL_law_350 : decode cL_law 350 = .ok (.aload 11, 2) := by decide +kernel
theorem dL_law_352 : decode cL_law 352 = .ok (.iconst 1, 1) := by decide +kernel
theorem dL_law_353 : decode cL_law 353 = .ok (.iaload, 1) := by decide +kernel
theorem dL_law_354 : decode cL_law 354 = .ok (.iconst 1, 1) := by decide +kernel
theorem dL_law_355 : decode cL_law 355 = .ok (.isub, 1) := by decide +kernel
theorem dL_law_356 : decode cL_law 356 = .ok (.goto 5, 3) := by decide +kernel
theorem dL_law_359 : decode cL_law 359 = .ok (.ldc 70, 2) := by decide +kernel
theorem dL_law_361 : decode cL_law 361 = .ok (.if_icmp .ne 7, 3) := by decide +kernel
theorem dL_law_364 : decode cL_law 364 = .ok (.iconst 1, 1) := by decide +kernel
theorem dL_law_365 : decode cL_law 365 = .ok (.goto 4, 3) := by decide +kernel
theorem dL_law_368 : decode cL_law 368 = .ok (.iconst 0, 1) := by decide +kernel
theorem dL_law_369 : decode cL_law 369 = .ok (.istore 12, 2) := by decide +kernel
theorem dL_law_371 : decode cL_law 371 = .ok (.goto 870, 3) := by decide +kernel
theorem dL_law_374 : decode cL_law 374 = .ok (.iload 14, 2) := by decide +kernel
theorem dL_law_376 : decode cL_law 376 = .ok (.bipush 13, 2) := by decide +kernel
theorem dL_law_378 : decode cL_law 378 = .ok (.if_icmp .ge 22, 3) := by decide +kernel
theorem dL_law_381 : decode cL_law 381 = .ok (.aload_n 1, 1) := by decide +kernel
theorem dL_law_382 : decode cL_law 382 = .ok (.aload_n 2, 1) := by decide +kernel
theorem dL_law_383 : decode cL_law 383 = .ok (.aload_n 3, 1) := by decide +kernel
theorem dL_law_384 : decode cL_law 384 = .ok (.aload 4, 2) := by decide +kernel
theorem dL_law_386 : decode cL_law 386 = .ok (.aload 11, 2) := by decide +kernel
theorem dL_law_388 : decode cL_law 388 = .ok (.iload 15, 2) := by decide +kernel
theorem dL_law_390 : decode cL_law 390 = .ok (.iload 16, 2) := by decide +kernel
theorem dL_law_392 : decode cL_law 392 = .ok (.invokestatic 113, 3) := by decide +kernel
theorem dL_law_395 : decode cL_law 395 = .ok (.istore 12, 2) := by decide +kernel
theorem dL_law_397 : decode cL_law 397 = .ok (.goto 844, 3) := by decide +kernel
theorem dL_law_400 : decode cL_law 400 = .ok (.iload 14, 2) := by decide +kernel
theorem dL_law_402 : decode cL_law 402 = .ok (.bipush 15, 2) := by decide +kernel
theorem dL_law_404 : decode cL_law 404 = .ok (.if_icmp .ge 166, 3) := by decide +kernel
theorem dL_law_407 : decode cL_law 407 = .ok (.aload 11, 2) := by decide +kernel
theorem dL_law_409 : decode cL_law 409 = .ok (.iconst 4, 1) := by decide +kernel
theorem dL_law_410 : decode cL_law 410 = .ok (.iaload, 1) := by decide +kernel
theorem dL_law_411 : decode cL_law 411 = .ok (.istore 19, 2) := by decide +kernel
theorem dL_law_413 : decode cL_law 413 = .ok (.aload 11, 2) := by decide +kernel
theorem dL_law_415 : decode cL_law 415 = .ok (.iconst 3, 1) := by decide +kernel
theorem dL_law_416 : decode cL_law 416 = .ok (.iaload, 1) := by decide +kernel
theorem dL_law_417 : decode cL_law 417 = .ok (.bipush 11, 2) := by decide +kernel
theorem dL_law_419 : decode cL_law 419 = .ok (.if_icmp .ge 7, 3) := by decide +kernel
theorem dL_law_422 : decode cL_law 422 = .ok (.iconst 1, 1) := by decide +kernel
theorem dL_law_423 : decode cL_law 423 = .ok (.goto 4, 3) := by decide +kernel
theorem dL_law_426 : decode cL_law 426 = .ok (.iconst 0, 1) := by decide +kernel
theorem dL_law_427 : decode cL_law 427 = .ok (.istore 20, 2) := by decide +kernel
theorem dL_law_429 : decode cL_law 429 = .ok (.iconst 1, 1) := by decide +kernel
theorem dL_law_430 : decode cL_law 430 = .ok (.istore 21, 2) := by decide +kernel
theorem dL_law_432 : decode cL_law 432 = .ok (.iload 21, 2) := by decide +kernel
theorem dL_law_434 : decode cL_law 434 = .ok (.iconst 4, 1) := by decide +kernel
theorem dL_law_435 : decode cL_law 435 = .ok (.if_icmp .ge 80, 3) := by decide +kernel
theorem dL_law_438 : decode cL_law 438 = .ok (.iload 20, 2) := by decide +kernel
theorem dL_law_440 : decode cL_law 440 = .ok (.ifCond .eq 75, 3) := by decide +kernel
theorem dL_law_443 : decode cL_law 443 = .ok (.aload_n 2, 1) := by decide +kernel
theorem dL_law_444 : decode cL_law 444 = .ok (.aload_n 3, 1) := by decide +kernel
theorem dL_law_445 : decode cL_law 445 = .ok (.aload 4, 2) := by decide +kernel
theorem dL_law_447 : decode cL_law 447 = .ok (.aload 11, 2) := by decide +kernel
theorem dL_law_449 : decode cL_law 449 = .ok (.aload 11, 2) := by decide +kernel
theorem dL_law_451 : decode cL_law 451 = .ok (.iconst 3, 1) := by decide +kernel
theorem dL_law_452 : decode cL_law 452 = .ok (.iaload, 1) := by decide +kernel
theorem dL_law_453 : decode cL_law 453 = .ok (.iload 21, 2) := by decide +kernel
theorem dL_law_455 : decode cL_law 455 = .ok (.invokestatic 88, 3) := by decide +kernel
theorem dL_law_458 : decode cL_law 458 = .ok (.istore 22, 2) := by decide +kernel
theorem dL_law_460 : decode cL_law 460 = .ok (.iload 22, 2) := by decide +kernel
theorem dL_law_462 : decode cL_law 462 = .ok (.ifCond .lt 47, 3) := by decide +kernel
theorem dL_law_465 : decode cL_law 465 = .ok (.aload 5, 2) := by decide +kernel
theorem dL_law_467 : decode cL_law 467 = .ok (.aload 11, 2) := by decide +kernel
theorem dL_law_469 : decode cL_law 469 = .ok (.iconst 4, 1) := by decide +kernel
theorem dL_law_470 : decode cL_law 470 = .ok (.iaload, 1) := by decide +kernel
theorem dL_law_471 : decode cL_law 471 = .ok (.aload 11, 2) := by decide +kernel
theorem dL_law_473 : decode cL_law 473 = .ok (.iconst 3, 1) := by decide +kernel
theorem dL_law_474 : decode cL_law 474 = .ok (.iaload, 1) := by decide +kernel
theorem dL_law_475 : decode cL_law 475 = .ok (.bipush 16, 2) := by decide +kernel
theorem dL_law_477 : decode cL_law 477 = .ok (.iload 21, 2) := by decide +kernel
theorem dL_law_479 : decode cL_law 479 = .ok (.imul, 1) := by decide +kernel
theorem dL_law_480 : decode cL_law 480 = .ok (.iadd, 1) := by decide +kernel
theorem dL_law_481 : decode cL_law 481 = .ok (.iastore, 1) := by decide +kernel
theorem dL_law_482 : decode cL_law 482 = .ok (.aload 6, 2) := by decide +kernel
theorem dL_law_484 : decode cL_law 484 = .ok (.aload 11, 2) := by decide +kernel
theorem dL_law_486 : decode cL_law 486 = .ok (.iconst 4, 1) := by decide +kernel
theorem dL_law_487 : decode cL_law 487 = .ok (.iaload, 1) := by decide +kernel
theorem dL_law_488 : decode cL_law 488 = .ok (.iload 22, 2) := by decide +kernel
theorem dL_law_490 : decode cL_law 490 = .ok (.iconst 1, 1) := by decide +kernel
theorem dL_law_491 : decode cL_law 491 = .ok (.iadd, 1) := by decide +kernel
theorem dL_law_492 : decode cL_law 492 = .ok (.bipush 32, 2) := by decide +kernel
theorem dL_law_494 : decode cL_law 494 = .ok (.iload 22, 2) := by decide +kernel
theorem dL_law_496 : decode cL_law 496 = .ok (.iconst 1, 1) := by decide +kernel
theorem dL_law_497 : decode cL_law 497 = .ok (.iadd, 1) := by decide +kernel
theorem dL_law_498 : decode cL_law 498 = .ok (.imul, 1) := by decide +kernel
theorem dL_law_499 : decode cL_law 499 = .ok (.iadd, 1) := by decide +kernel
theorem dL_law_500 : decode cL_law 500 = .ok (.iastore, 1) := by decide +kernel
theorem dL_law_501 : decode cL_law 501 = .ok (.aload 11, 2) := by decide +kernel
theorem dL_law_503 : decode cL_law 503 = .ok (.iconst 4, 1) := by decide +kernel
theorem dL_law_504 : decode cL_law 504 = .ok (.dup2, 1) := by decide +kernel
theorem dL_law_505 : decode cL_law 505 = .ok (.iaload, 1) := by decide +kernel
theorem dL_law_506 : decode cL_law 506 = .ok (.iconst 1, 1) := by decide +kernel
theorem dL_law_507 : decode cL_law 507 = .ok (.iadd, 1) := by decide +kernel
theorem dL_law_508 : decode cL_law 508 = .ok (.iastore, 1) := by decide +kernel
theorem dL_law_509 : decode cL_law 509 = .ok (.iinc 21 1, 3) := by decide +kernel
theorem dL_law_512 : decode cL_law 512 = .ok (.goto (-80), 3) := by decide +kernel
theorem dL_law_515 : decode cL_law 515 = .ok (.aload 11, 2) := by decide +kernel
theorem dL_law_517 : decode cL_law 517 = .ok (.iconst 3, 1) := by decide +kernel
theorem dL_law_518 : decode cL_law 518 = .ok (.dup2, 1) := by decide +kernel
theorem dL_law_519 : decode cL_law 519 = .ok (.iaload, 1) := by decide +kernel
theorem dL_law_520 : decode cL_law 520 = .ok (.iload 20, 2) := by decide +kernel
theorem dL_law_522 : decode cL_law 522 = .ok (.ifCond .eq 7, 3) := by decide +kernel
theorem dL_law_525 : decode cL_law 525 = .ok (.iconst 1, 1) := by decide +kernel
theorem dL_law_526 : decode cL_law 526 = .ok (.goto 4, 3) := by decide +kernel
theorem dL_law_529 : decode cL_law 529 = .ok (.iconst 0, 1) := by decide +kernel
theorem dL_law_530 : decode cL_law 530 = .ok (.iadd, 1) := by decide +kernel
theorem dL_law_531 : decode cL_law 531 = .ok (.iastore, 1) := by decide +kernel
theorem dL_law_532 : decode cL_law 532 = .ok (.aload_n 1, 1) := by decide +kernel
theorem dL_law_533 : decode cL_law 533 = .ok (.iconst 3, 1) := by decide +kernel
theorem dL_law_534 : decode cL_law 534 = .ok (.iconst 0, 1) := by decide +kernel
theorem dL_law_535 : decode cL_law 535 = .ok (.iconst 0, 1) := by decide +kernel
theorem dL_law_536 : decode cL_law 536 = .ok (.iconst 0, 1) := by decide +kernel
theorem dL_law_537 : decode cL_law 537 = .ok (.invokestatic 95, 3) := by decide +kernel
theorem dL_law_540 : decode cL_law 540 = .ok (.iload 20, 2) := by decide +kernel
theorem dL_law_542 : decode cL_law 542 = .ok (.ifCond .eq 13, 3) := by decide +kernel
theorem dL_law_545 : decode cL_law 545 = .ok (.aload 11, 2) := by decide +kernel
theorem dL_law_547 : decode cL_law 547 = .ok (.iconst 4, 1) := by decide +kernel
theorem dL_law_548 : decode cL_law 548 = .ok (.iaload, 1) := by decide +kernel
theorem dL_law_549 : decode cL_law 549 = .ok (.iload 19, 2) := by decide +kernel
theorem dL_law_551 : decode cL_law 551 = .ok (.isub, 1) := by decide +kernel
theorem dL_law_552 : decode cL_law 552 = .ok (.goto 5, 3) := by decide +kernel
theorem dL_law_555 : decode cL_law 555 = .ok (.ldc 70, 2) := by decide +kernel
theorem dL_law_557 : decode cL_law 557 = .ok (.if_icmp .ne 7, 3) := by decide +kernel
theorem dL_law_560 : decode cL_law 560 = .ok (.iconst 1, 1) := by decide +kernel
theorem dL_law_561 : decode cL_law 561 = .ok (.goto 4, 3) := by decide +kernel
theorem dL_law_564 : decode cL_law 564 = .ok (.iconst 0, 1) := by decide +kernel
theorem dL_law_565 : decode cL_law 565 = .ok (.istore 12, 2) := by decide +kernel
theorem dL_law_567 : decode cL_law 567 = .ok (.goto 674, 3) := by decide +kernel
theorem dL_law_570 : decode cL_law 570 = .ok (.iload 14, 2) := by decide +kernel
theorem dL_law_572 : decode cL_law 572 = .ok (.bipush 21, 2) := by decide +kernel
theorem dL_law_574 : decode cL_law 574 = .ok (.if_icmp .ge 41, 3) := by decide +kernel
theorem dL_law_577 : decode cL_law 577 = .ok (.aload_n 1, 1) := by decide +kernel
theorem dL_law_578 : decode cL_law 578 = .ok (.aload_n 2, 1) := by decide +kernel
theorem dL_law_579 : decode cL_law 579 = .ok (.aload 6, 2) := by decide +kernel
theorem dL_law_581 : decode cL_law 581 = .ok (.aload 7, 2) := by decide +kernel
theorem dL_law_583 : decode cL_law 583 = .ok (.aload 8, 2) := by decide +kernel
theorem dL_law_585 : decode cL_law 585 = .ok (.aload 9, 2) := by decide +kernel
theorem dL_law_587 : decode cL_law 587 = .ok (.aload 10, 2) := by decide +kernel
theorem dL_law_589 : decode cL_law 589 = .ok (.aload 11, 2) := by decide +kernel
theorem dL_law_591 : decode cL_law 591 = .ok (.iload 14, 2) := by decide +kernel
theorem dL_law_593 : decode cL_law 593 = .ok (.bipush 19, 2) := by decide +kernel
theorem dL_law_595 : decode cL_law 595 = .ok (.if_icmp .ge 7, 3) := by decide +kernel
theorem dL_law_598 : decode cL_law 598 = .ok (.iconst 1, 1) := by decide +kernel
theorem dL_law_599 : decode cL_law 599 = .ok (.goto 4, 3) := by decide +kernel
theorem dL_law_602 : decode cL_law 602 = .ok (.iconst 0, 1) := by decide +kernel
theorem dL_law_603 : decode cL_law 603 = .ok (.iload 15, 2) := by decide +kernel
theorem dL_law_605 : decode cL_law 605 = .ok (.iload 16, 2) := by decide +kernel
theorem dL_law_607 : decode cL_law 607 = .ok (.invokestatic 117, 3) := by decide +kernel
theorem dL_law_610 : decode cL_law 610 = .ok (.istore 12, 2) := by decide +kernel
theorem dL_law_612 : decode cL_law 612 = .ok (.goto 629, 3) := by decide +kernel
theorem dL_law_615 : decode cL_law 615 = .ok (.iload 14, 2) := by decide +kernel
theorem dL_law_617 : decode cL_law 617 = .ok (.bipush 24, 2) := by decide +kernel
theorem dL_law_619 : decode cL_law 619 = .ok (.if_icmp .ge 177, 3) := by decide +kernel
theorem dL_law_622 : decode cL_law 622 = .ok (.iload 16, 2) := by decide +kernel
theorem dL_law_624 : decode cL_law 624 = .ok (.aload 11, 2) := by decide +kernel
theorem dL_law_626 : decode cL_law 626 = .ok (.iconst 0, 1) := by decide +kernel
theorem dL_law_627 : decode cL_law 627 = .ok (.iaload, 1) := by decide +kernel
theorem dL_law_628 : decode cL_law 628 = .ok (.iconst 2, 1) := by decide +kernel
theorem dL_law_629 : decode cL_law 629 = .ok (.iadd, 1) := by decide +kernel
theorem dL_law_630 : decode cL_law 630 = .ok (.irem, 1) := by decide +kernel
theorem dL_law_631 : decode cL_law 631 = .ok (.istore 19, 2) := by decide +kernel
theorem dL_law_633 : decode cL_law 633 = .ok (.iload 19, 2) := by decide +kernel
theorem dL_law_635 : decode cL_law 635 = .ok (.aload 11, 2) := by decide +kernel
theorem dL_law_637 : decode cL_law 637 = .ok (.iconst 0, 1) := by decide +kernel
theorem dL_law_638 : decode cL_law 638 = .ok (.iaload, 1) := by decide +kernel
theorem dL_law_639 : decode cL_law 639 = .ok (.if_icmp .gt 7, 3) := by decide +kernel
theorem dL_law_642 : decode cL_law 642 = .ok (.iconst 1, 1) := by decide +kernel
theorem dL_law_643 : decode cL_law 643 = .ok (.goto 4, 3) := by decide +kernel
theorem dL_law_646 : decode cL_law 646 = .ok (.iconst 0, 1) := by decide +kernel
theorem dL_law_647 : decode cL_law 647 = .ok (.istore 20, 2) := by decide +kernel
theorem dL_law_649 : decode cL_law 649 = .ok (.iload 18, 2) := by decide +kernel
theorem dL_law_651 : decode cL_law 651 = .ok (.ifCond .eq 56, 3) := by decide +kernel
theorem dL_law_654 : decode cL_law 654 = .ok (.iload 20, 2) := by decide +kernel
theorem dL_law_656 : decode cL_law 656 = .ok (.ifCond .eq 51, 3) := by decide +kernel
theorem dL_law_659 : decode cL_law 659 = .ok (.aload_n 2, 1) := by decide +kernel
theorem dL_law_660 : decode cL_law 660 = .ok (.iload 17, 2) := by decide +kernel
theorem dL_law_662 : decode cL_law 662 = .ok (.aload_n 2, 1) := by decide +kernel
theorem dL_law_663 : decode cL_law 663 = .ok (.iload 17, 2) := by decide +kernel
theorem dL_law_665 : decode cL_law 665 = .ok (.iaload, 1) := by decide +kernel
theorem dL_law_666 : decode cL_law 666 = .ok (.ifCond .lt 12, 3) := by decide +kernel
theorem dL_law_669 : decode cL_law 669 = .ok (.iload 19, 2) := by decide +kernel
theorem dL_law_671 : decode cL_law 671 = .ok (.aload_n 2, 1) := by decide +kernel
theorem dL_law_672 : decode cL_law 672 = .ok (.iload 17, 2) := by decide +kernel
theorem dL_law_674 : decode cL_law 674 = .ok (.iaload, 1) := by decide +kernel
theorem dL_law_675 : decode cL_law 675 = .ok (.if_icmp .ge 8, 3) := by decide +kernel
theorem dL_law_678 : decode cL_law 678 = .ok (.iload 19, 2) := by decide +kernel
theorem dL_law_680 : decode cL_law 680 = .ok (.goto 7, 3) := by decide +kernel
theorem dL_law_683 : decode cL_law 683 = .ok (.aload_n 2, 1) := by decide +kernel
theorem dL_law_684 : decode cL_law 684 = .ok (.iload 17, 2) := by decide +kernel
theorem dL_law_686 : decode cL_law 686 = .ok (.iaload, 1) := by decide +kernel
theorem dL_law_687 : decode cL_law 687 = .ok (.iastore, 1) := by decide +kernel
theorem dL_law_688 : decode cL_law 688 = .ok (.aload_n 2, 1) := by decide +kernel
theorem dL_law_689 : decode cL_law 689 = .ok (.aload_n 3, 1) := by decide +kernel
theorem dL_law_690 : decode cL_law 690 = .ok (.aload 4, 2) := by decide +kernel
theorem dL_law_692 : decode cL_law 692 = .ok (.aload 5, 2) := by decide +kernel
theorem dL_law_694 : decode cL_law 694 = .ok (.aload 6, 2) := by decide +kernel
theorem dL_law_696 : decode cL_law 696 = .ok (.aload 8, 2) := by decide +kernel
theorem dL_law_698 : decode cL_law 698 = .ok (.aload 9, 2) := by decide +kernel
theorem dL_law_700 : decode cL_law 700 = .ok (.aload 10, 2) := by decide +kernel
theorem dL_law_702 : decode cL_law 702 = .ok (.aload 11, 2) := by decide +kernel
theorem dL_law_704 : decode cL_law 704 = .ok (.invokestatic 121, 3) := by decide +kernel
theorem dL_law_707 : decode cL_law 707 = .ok (.iconst 0, 1) := by decide +kernel
theorem dL_law_708 : decode cL_law 708 = .ok (.istore 21, 2) := by decide +kernel
theorem dL_law_710 : decode cL_law 710 = .ok (.iconst 0, 1) := by decide +kernel
theorem dL_law_711 : decode cL_law 711 = .ok (.istore 22, 2) := by decide +kernel
theorem dL_law_713 : decode cL_law 713 = .ok (.iload 22, 2) := by decide +kernel
theorem dL_law_715 : decode cL_law 715 = .ok (.aload 11, 2) := by decide +kernel
theorem dL_law_717 : decode cL_law 717 = .ok (.iconst 2, 1) := by decide +kernel
theorem dL_law_718 : decode cL_law 718 = .ok (.iaload, 1) := by decide +kernel
theorem dL_law_719 : decode cL_law 719 = .ok (.if_icmp .ge 31, 3) := by decide +kernel
theorem dL_law_722 : decode cL_law 722 = .ok (.iload 21, 2) := by decide +kernel
theorem dL_law_724 : decode cL_law 724 = .ok (.aload_n 2, 1) := by decide +kernel
theorem dL_law_725 : decode cL_law 725 = .ok (.aload_n 3, 1) := by decide +kernel
theorem dL_law_726 : decode cL_law 726 = .ok (.aload 4, 2) := by decide +kernel
theorem dL_law_728 : decode cL_law 728 = .ok (.iload 22, 2) := by decide +kernel
theorem dL_law_730 : decode cL_law 730 = .ok (.invokestatic 71, 3) := by decide +kernel
theorem dL_law_733 : decode cL_law 733 = .ok (.ifCond .eq 7, 3) := by decide +kernel
theorem dL_law_736 : decode cL_law 736 = .ok (.iconst 0, 1) := by decide +kernel
theorem dL_law_737 : decode cL_law 737 = .ok (.goto 4, 3) := by decide +kernel
theorem dL_law_740 : decode cL_law 740 = .ok (.iconst 1, 1) := by decide +kernel
theorem dL_law_741 : decode cL_law 741 = .ok (.iadd, 1) := by decide +kernel
theorem dL_law_742 : decode cL_law 742 = .ok (.istore 21, 2) := by decide +kernel
theorem dL_law_744 : decode cL_law 744 = .ok (.iinc 22 1, 3) := by decide +kernel
theorem dL_law_747 : decode cL_law 747 = .ok (.goto (-34), 3) := by decide +kernel
theorem dL_law_750 : decode cL_law 750 = .ok (.aload_n 1, 1) := by decide +kernel
theorem dL_law_751 : decode cL_law 751 = .ok (.bipush 6, 2) := by decide +kernel
theorem dL_law_753 : decode cL_law 753 = .ok (.iload 17, 2) := by decide +kernel
theorem dL_law_755 : decode cL_law 755 = .ok (.iload 19, 2) := by decide +kernel
theorem dL_law_757 : decode cL_law 757 = .ok (.iconst 0, 1) := by decide +kernel
theorem dL_law_758 : decode cL_law 758 = .ok (.invokestatic 95, 3) := by decide +kernel
theorem dL_law_761 : decode cL_law 761 = .ok (.iload 18, 2) := by decide +kernel
theorem dL_law_763 : decode cL_law 763 = .ok (.ifCond .ne 8, 3) := by decide +kernel
theorem dL_law_766 : decode cL_law 766 = .ok (.ldc 64, 2) := by decide +kernel
theorem dL_law_768 : decode cL_law 768 = .ok (.goto 15, 3) := by decide +kernel
theorem dL_law_771 : decode cL_law 771 = .ok (.iload 20, 2) := by decide +kernel
theorem dL_law_773 : decode cL_law 773 = .ok (.ifCond .eq 8, 3) := by decide +kernel
theorem dL_law_776 : decode cL_law 776 = .ok (.iload 21, 2) := by decide +kernel
theorem dL_law_778 : decode cL_law 778 = .ok (.goto 5, 3) := by decide +kernel
theorem dL_law_781 : decode cL_law 781 = .ok (.ldc 67, 2) := by decide +kernel
theorem dL_law_783 : decode cL_law 783 = .ok (.if_icmp .ne 7, 3) := by decide +kernel
theorem dL_law_786 : decode cL_law 786 = .ok (.iconst 1, 1) := by decide +kernel
theorem dL_law_787 : decode cL_law 787 = .ok (.goto 4, 3) := by decide +kernel
theorem dL_law_790 : decode cL_law 790 = .ok (.iconst 0, 1) := by decide +kernel
theorem dL_law_791 : decode cL_law 791 = .ok (.istore 12, 2) := by decide +kernel
theorem dL_law_793 : decode cL_law 793 = .ok (.goto 448, 3) := by decide +kernel
theorem dL_law_796 : decode cL_law 796 = .ok (.iload 14, 2) := by decide +kernel
theorem dL_law_798 : decode cL_law 798 = .ok (.bipush 26, 2) := by decide +kernel
theorem dL_law_800 : decode cL_law 800 = .ok (.if_icmp .ge 92, 3) := by decide +kernel
theorem dL_law_803 : decode cL_law 803 = .ok (.iload 18, 2) := by decide +kernel
theorem dL_law_805 : decode cL_law 805 = .ok (.ifCond .eq 10, 3) := by decide +kernel
theorem dL_law_808 : decode cL_law 808 = .ok (.aload_n 2, 1) := by decide +kernel
theorem dL_law_809 : decode cL_law 809 = .ok (.iload 17, 2) := by decide +kernel
theorem dL_law_811 : decode cL_law 811 = .ok (.iaload, 1) := by decide +kernel
theorem dL_law_812 : decode cL_law 812 = .ok (.goto 4, 3) := by decide +kernel
theorem dL_law_815 : decode cL_law 815 = .ok (.iconst (-1), 1) := by decide +kernel
theorem dL_law_816 : decode cL_law 816 = .ok (.istore 19, 2) := by decide +kernel
theorem dL_law_818 : decode cL_law 818 = .ok (.iload 19, 2) := by decide +kernel
theorem dL_law_820 : decode cL_law 820 = .ok (.ifCond .lt 27, 3) := by decide +kernel
theorem dL_law_823 : decode cL_law 823 = .ok (.aload_n 2, 1) := by decide +kernel
theorem dL_law_824 : decode cL_law 824 = .ok (.iload 17, 2) := by decide +kernel
theorem dL_law_826 : decode cL_law 826 = .ok (.iconst (-1), 1) := by decide +kernel
theorem dL_law_827 : decode cL_law 827 = .ok (.iastore, 1) := by decide +kernel
theorem dL_law_828 : decode cL_law 828 = .ok (.aload_n 2, 1) := by decide +kernel
theorem dL_law_829 : decode cL_law 829 = .ok (.aload_n 3, 1) := by decide +kernel
theorem dL_law_830 : decode cL_law 830 = .ok (.aload 4, 2) := by decide +kernel
theorem dL_law_832 : decode cL_law 832 = .ok (.aload 5, 2) := by decide +kernel
theorem dL_law_834 : decode cL_law 834 = .ok (.aload 6, 2) := by decide +kernel
theorem dL_law_836 : decode cL_law 836 = .ok (.aload 8, 2) := by decide +kernel
theorem dL_law_838 : decode cL_law 838 = .ok (.aload 9, 2) := by decide +kernel
theorem dL_law_840 : decode cL_law 840 = .ok (.aload 10, 2) := by decide +kernel
theorem dL_law_842 : decode cL_law 842 = .ok (.aload 11, 2) := by decide +kernel
theorem dL_law_844 : decode cL_law 844 = .ok (.invokestatic 121, 3) := by decide +kernel
theorem dL_law_847 : decode cL_law 847 = .ok (.aload_n 1, 1) := by decide +kernel
theorem dL_law_848 : decode cL_law 848 = .ok (.bipush 7, 2) := by decide +kernel
theorem dL_law_850 : decode cL_law 850 = .ok (.iload 17, 2) := by decide +kernel
theorem dL_law_852 : decode cL_law 852 = .ok (.iconst 0, 1) := by decide +kernel
theorem dL_law_853 : decode cL_law 853 = .ok (.iconst 0, 1) := by decide +kernel
theorem dL_law_854 : decode cL_law 854 = .ok (.invokestatic 95, 3) := by decide +kernel
theorem dL_law_857 : decode cL_law 857 = .ok (.iload 18, 2) := by decide +kernel
theorem dL_law_859 : decode cL_law 859 = .ok (.ifCond .ne 8, 3) := by decide +kernel
theorem dL_law_862 : decode cL_law 862 = .ok (.ldc 64, 2) := by decide +kernel
theorem dL_law_864 : decode cL_law 864 = .ok (.goto 15, 3) := by decide +kernel
theorem dL_law_867 : decode cL_law 867 = .ok (.iload 19, 2) := by decide +kernel
theorem dL_law_869 : decode cL_law 869 = .ok (.ifCond .ge 8, 3) := by decide +kernel
theorem dL_law_872 : decode cL_law 872 = .ok (.ldc 70, 2) := by decide +kernel
theorem dL_law_874 : decode cL_law 874 = .ok (.goto 5, 3) := by decide +kernel
theorem dL_law_877 : decode cL_law 877 = .ok (.iload 19, 2) := by decide +kernel
theorem dL_law_879 : decode cL_law 879 = .ok (.if_icmp .ne 7, 3) := by decide +kernel
theorem dL_law_882 : decode cL_law 882 = .ok (.iconst 1, 1) := by decide +kernel
theorem dL_law_883 : decode cL_law 883 = .ok (.goto 4, 3) := by decide +kernel
theorem dL_law_886 : decode cL_law 886 = .ok (.iconst 0, 1) := by decide +kernel
theorem dL_law_887 : decode cL_law 887 = .ok (.istore 12, 2) := by decide +kernel
theorem dL_law_889 : decode cL_law 889 = .ok (.goto 352, 3) := by decide +kernel
theorem dL_law_892 : decode cL_law 892 = .ok (.iload 14, 2) := by decide +kernel
theorem dL_law_894 : decode cL_law 894 = .ok (.bipush 26, 2) := by decide +kernel
theorem dL_law_896 : decode cL_law 896 = .ok (.if_icmp .ne 145, 3) := by decide +kernel
theorem dL_law_899 : decode cL_law 899 = .ok (.iload 16, 2) := by decide +kernel
theorem dL_law_901 : decode cL_law 901 = .ok (.iconst 4, 1) := by decide +kernel
theorem dL_law_902 : decode cL_law 902 = .ok (.irem, 1) := by decide +kernel
theorem dL_law_903 : decode cL_law 903 = .ok (.ifCond .ne 14, 3) := by decide +kernel
theorem dL_law_906 : decode cL_law 906 = .ok (.iload 16, 2) := by decide +kernel
theorem dL_law_908 : decode cL_law 908 = .ok (.iconst 4, 1) := by decide +kernel
theorem dL_law_909 : decode cL_law 909 = .ok (.idiv, 1) := by decide +kernel
theorem dL_law_910 : decode cL_law 910 = .ok (.sipush 1002, 3) := by decide +kernel
theorem dL_law_913 : decode cL_law 913 = .ok (.irem, 1) := by decide +kernel
theorem dL_law_914 : decode cL_law 914 = .ok (.goto 7, 3) := by decide +kernel
theorem dL_law_917 : decode cL_law 917 = .ok (.iload 16, 2) := by decide +kernel
theorem dL_law_919 : decode cL_law 919 = .ok (.iconst 5, 1) := by decide +kernel
theorem dL_law_920 : decode cL_law 920 = .ok (.irem, 1) := by decide +kernel
theorem dL_law_921 : decode cL_law 921 = .ok (.istore 19, 2) := by decide +kernel
theorem dL_law_923 : decode cL_law 923 = .ok (.iload 19, 2) := by decide +kernel
theorem dL_law_925 : decode cL_law 925 = .ok (.sipush 1001, 3) := by decide +kernel
theorem dL_law_928 : decode cL_law 928 = .ok (.if_icmp .ge 7, 3) := by decide +kernel
theorem dL_law_931 : decode cL_law 931 = .ok (.iconst 1, 1) := by decide +kernel
theorem dL_law_932 : decode cL_law 932 = .ok (.goto 4, 3) := by decide +kernel
theorem dL_law_935 : decode cL_law 935 = .ok (.iconst 0, 1) := by decide +kernel
theorem dL_law_936 : decode cL_law 936 = .ok (.istore 20, 2) := by decide +kernel
theorem dL_law_938 : decode cL_law 938 = .ok (.aload_n 2, 1) := by decide +kernel
theorem dL_law_939 : decode cL_law 939 = .ok (.bipush 16, 2) := by decide +kernel
theorem dL_law_941 : decode cL_law 941 = .ok (.iload 18, 2) := by decide +kernel
theorem dL_law_943 : decode cL_law 943 = .ok (.ifCond .eq 8, 3) := by decide +kernel
theorem dL_law_946 : decode cL_law 946 = .ok (.iload 17, 2) := by decide +kernel
theorem dL_law_948 : decode cL_law 948 = .ok (.goto 4, 3) := by decide +kernel
theorem dL_law_951 : decode cL_law 951 = .ok (.iconst 0, 1) := by decide +kernel
theorem dL_law_952 : decode cL_law 952 = .ok (.iadd, 1) := by decide +kernel
theorem dL_law_953 : decode cL_law 953 = .ok (.iload 18, 2) := by decide +kernel
theorem dL_law_955 : decode cL_law 955 = .ok (.ifCond .eq 18, 3) := by decide +kernel
theorem dL_law_958 : decode cL_law 958 = .ok (.iload 20, 2) := by decide +kernel
theorem dL_law_960 : decode cL_law 960 = .ok (.ifCond .eq 13, 3) := by decide +kernel
theorem dL_law_963 : decode cL_law 963 = .ok (.aload 11, 2) := by decide +kernel
theorem dL_law_965 : decode cL_law 965 = .ok (.iconst 0, 1) := by decide +kernel
theorem dL_law_966 : decode cL_law 966 = .ok (.iaload, 1) := by decide +kernel
theorem dL_law_967 : decode cL_law 967 = .ok (.iload 19, 2) := by decide +kernel
theorem dL_law_969 : decode cL_law 969 = .ok (.iadd, 1) := by decide +kernel
theorem dL_law_970 : decode cL_law 970 = .ok (.goto 19, 3) := by decide +kernel
theorem dL_law_973 : decode cL_law 973 = .ok (.aload_n 2, 1) := by decide +kernel
theorem dL_law_974 : decode cL_law 974 = .ok (.bipush 16, 2) := by decide +kernel
theorem dL_law_976 : decode cL_law 976 = .ok (.iload 18, 2) := by decide +kernel
theorem dL_law_978 : decode cL_law 978 = .ok (.ifCond .eq 8, 3) := by decide +kernel
theorem dL_law_981 : decode cL_law 981 = .ok (.iload 17, 2) := by decide +kernel
theorem dL_law_983 : decode cL_law 983 = .ok (.goto 4, 3) := by decide +kernel
theorem dL_law_986 : decode cL_law 986 = .ok (.iconst 0, 1) := by decide +kernel
theorem dL_law_987 : decode cL_law 987 = .ok (.iadd, 1) := by decide +kernel
theorem dL_law_988 : decode cL_law 988 = .ok (.iaload, 1) := by decide +kernel
theorem dL_law_989 : decode cL_law 989 = .ok (.iastore, 1) := by decide +kernel
theorem dL_law_990 : decode cL_law 990 = .ok (.aload_n 1, 1) := by decide +kernel
theorem dL_law_991 : decode cL_law 991 = .ok (.bipush 8, 2) := by decide +kernel
theorem dL_law_993 : decode cL_law 993 = .ok (.iload 17, 2) := by decide +kernel
theorem dL_law_995 : decode cL_law 995 = .ok (.iload 19, 2) := by decide +kernel
theorem dL_law_997 : decode cL_law 997 = .ok (.iconst 0, 1) := by decide +kernel
theorem dL_law_998 : decode cL_law 998 = .ok (.invokestatic 95, 3) := by decide +kernel
theorem dL_law_1001 : decode cL_law 1001 = .ok (.iload 18, 2) := by decide +kernel
theorem dL_law_1003 : decode cL_law 1003 = .ok (.ifCond .ne 8, 3) := by decide +kernel
theorem dL_law_1006 : decode cL_law 1006 = .ok (.ldc 64, 2) := by decide +kernel
theorem dL_law_1008 : decode cL_law 1008 = .ok (.goto 20, 3) := by decide +kernel
theorem dL_law_1011 : decode cL_law 1011 = .ok (.iload 20, 2) := by decide +kernel
theorem dL_law_1013 : decode cL_law 1013 = .ok (.ifCond .eq 13, 3) := by decide +kernel
theorem dL_law_1016 : decode cL_law 1016 = .ok (.aload 11, 2) := by decide +kernel
theorem dL_law_1018 : decode cL_law 1018 = .ok (.iconst 0, 1) := by decide +kernel
theorem dL_law_1019 : decode cL_law 1019 = .ok (.iaload, 1) := by decide +kernel
theorem dL_law_1020 : decode cL_law 1020 = .ok (.iload 19, 2) := by decide +kernel
theorem dL_law_1022 : decode cL_law 1022 = .ok (.iadd, 1) := by decide +kernel
theorem dL_law_1023 : decode cL_law 1023 = .ok (.goto 5, 3) := by decide +kernel
theorem dL_law_1026 : decode cL_law 1026 = .ok (.ldc 67, 2) := by decide +kernel
theorem dL_law_1028 : decode cL_law 1028 = .ok (.if_icmp .ne 7, 3) := by decide +kernel
theorem dL_law_1031 : decode cL_law 1031 = .ok (.iconst 1, 1) := by decide +kernel
theorem dL_law_1032 : decode cL_law 1032 = .ok (.goto 4, 3) := by decide +kernel
theorem dL_law_1035 : decode cL_law 1035 = .ok (.iconst 0, 1) := by decide +kernel
theorem dL_law_1036 : decode cL_law 1036 = .ok (.istore 12, 2) := by decide +kernel
theorem dL_law_1038 : decode cL_law 1038 = .ok (.goto 203, 3) := by decide +kernel
theorem dL_law_1041 : decode cL_law 1041 = .ok (.iload 14, 2) := by decide +kernel
theorem dL_law_1043 : decode cL_law 1043 = .ok (.bipush 27, 2) := by decide +kernel
theorem dL_law_1045 : decode cL_law 1045 = .ok (.if_icmp .ne 155, 3) := by decide +kernel
theorem dL_law_1048 : decode cL_law 1048 = .ok (.iload 16, 2) := by decide +kernel
theorem dL_law_1050 : decode cL_law 1050 = .ok (.bipush 6, 2) := by decide +kernel
theorem dL_law_1052 : decode cL_law 1052 = .ok (.irem, 1) := by decide +kernel
theorem dL_law_1053 : decode cL_law 1053 = .ok (.ifCond .ne 14, 3) := by decide +kernel
theorem dL_law_1056 : decode cL_law 1056 = .ok (.iload 16, 2) := by decide +kernel
theorem dL_law_1058 : decode cL_law 1058 = .ok (.bipush 6, 2) := by decide +kernel
theorem dL_law_1060 : decode cL_law 1060 = .ok (.idiv, 1) := by decide +kernel
theorem dL_law_1061 : decode cL_law 1061 = .ok (.bipush 52, 2) := by decide +kernel
theorem dL_law_1063 : decode cL_law 1063 = .ok (.irem, 1) := by decide +kernel
theorem dL_law_1064 : decode cL_law 1064 = .ok (.goto 7, 3) := by decide +kernel
theorem dL_law_1067 : decode cL_law 1067 = .ok (.iload 16, 2) := by decide +kernel
theorem dL_law_1069 : decode cL_law 1069 = .ok (.iconst 4, 1) := by decide +kernel
theorem dL_law_1070 : decode cL_law 1070 = .ok (.irem, 1) := by decide +kernel
theorem dL_law_1071 : decode cL_law 1071 = .ok (.istore 19, 2) := by decide +kernel
theorem dL_law_1073 : decode cL_law 1073 = .ok (.iload 15, 2) := by decide +kernel
theorem dL_law_1075 : decode cL_law 1075 = .ok (.iconst 4, 1) := by decide +kernel
theorem dL_law_1076 : decode cL_law 1076 = .ok (.irem, 1) := by decide +kernel
theorem dL_law_1077 : decode cL_law 1077 = .ok (.istore 20, 2) := by decide +kernel
theorem dL_law_1079 : decode cL_law 1079 = .ok (.iconst 0, 1) := by decide +kernel
theorem dL_law_1080 : decode cL_law 1080 = .ok (.istore 21, 2) := by decide +kernel
theorem dL_law_1082 : decode cL_law 1082 = .ok (.iconst 0, 1) := by decide +kernel
theorem dL_law_1083 : decode cL_law 1083 = .ok (.istore 22, 2) := by decide +kernel
theorem dL_law_1085 : decode cL_law 1085 = .ok (.iload 22, 2) := by decide +kernel
theorem dL_law_1087 : decode cL_law 1087 = .ok (.aload 11, 2) := by decide +kernel
theorem dL_law_1089 : decode cL_law 1089 = .ok (.iconst 2, 1) := by decide +kernel
theorem dL_law_1090 : decode cL_law 1090 = .ok (.iaload, 1) := by decide +kernel
theorem dL_law_1091 : decode cL_law 1091 = .ok (.if_icmp .ge 46, 3) := by decide +kernel
theorem dL_law_1094 : decode cL_law 1094 = .ok (.iload 21, 2) := by decide +kernel
theorem dL_law_1096 : decode cL_law 1096 = .ok (.aload_n 3, 1) := by decide +kernel
theorem dL_law_1097 : decode cL_law 1097 = .ok (.iload 22, 2) := by decide +kernel
theorem dL_law_1099 : decode cL_law 1099 = .ok (.iaload, 1) := by decide +kernel
theorem dL_law_1100 : decode cL_law 1100 = .ok (.sipush 256, 3) := by decide +kernel
theorem dL_law_1103 : decode cL_law 1103 = .ok (.idiv, 1) := by decide +kernel
theorem dL_law_1104 : decode cL_law 1104 = .ok (.iconst 4, 1) := by decide +kernel
theorem dL_law_1105 : decode cL_law 1105 = .ok (.irem, 1) := by decide +kernel
theorem dL_law_1106 : decode cL_law 1106 = .ok (.iload 20, 2) := by decide +kernel
theorem dL_law_1108 : decode cL_law 1108 = .ok (.if_icmp .ne 19, 3) := by decide +kernel
theorem dL_law_1111 : decode cL_law 1111 = .ok (.aload 4, 2) := by decide +kernel
theorem dL_law_1113 : decode cL_law 1113 = .ok (.iload 22, 2) := by decide +kernel
theorem dL_law_1115 : decode cL_law 1115 = .ok (.iaload, 1) := by decide +kernel
theorem dL_law_1116 : decode cL_law 1116 = .ok (.aload 11, 2) := by decide +kernel
theorem dL_law_1118 : decode cL_law 1118 = .ok (.iconst 0, 1) := by decide +kernel
theorem dL_law_1119 : decode cL_law 1119 = .ok (.iaload, 1) := by decide +kernel
theorem dL_law_1120 : decode cL_law 1120 = .ok (.if_icmp .ne 7, 3) := by decide +kernel
theorem dL_law_1123 : decode cL_law 1123 = .ok (.iconst 1, 1) := by decide +kernel
theorem dL_law_1124 : decode cL_law 1124 = .ok (.goto 4, 3) := by decide +kernel
theorem dL_law_1127 : decode cL_law 1127 = .ok (.iconst 0, 1) := by decide +kernel
theorem dL_law_1128 : decode cL_law 1128 = .ok (.iadd, 1) := by decide +kernel
theorem dL_law_1129 : decode cL_law 1129 = .ok (.istore 21, 2) := by decide +kernel
theorem dL_law_1131 : decode cL_law 1131 = .ok (.iinc 22 1, 3) := by decide +kernel
theorem dL_law_1134 : decode cL_law 1134 = .ok (.goto (-49), 3) := by decide +kernel
theorem dL_law_1137 : decode cL_law 1137 = .ok (.aload 11, 2) := by decide +kernel
theorem dL_law_1139 : decode cL_law 1139 = .ok (.iconst 5, 1) := by decide +kernel
theorem dL_law_1140 : decode cL_law 1140 = .ok (.iload 20, 2) := by decide +kernel
theorem dL_law_1142 : decode cL_law 1142 = .ok (.iadd, 1) := by decide +kernel
theorem dL_law_1143 : decode cL_law 1143 = .ok (.iload 19, 2) := by decide +kernel
theorem dL_law_1145 : decode cL_law 1145 = .ok (.bipush 51, 2) := by decide +kernel
theorem dL_law_1147 : decode cL_law 1147 = .ok (.if_icmp .ge 8, 3) := by decide +kernel
theorem dL_law_1150 : decode cL_law 1150 = .ok (.iload 19, 2) := by decide +kernel
theorem dL_law_1152 : decode cL_law 1152 = .ok (.goto 10, 3) := by decide +kernel
theorem dL_law_1155 : decode cL_law 1155 = .ok (.aload 11, 2) := by decide +kernel
theorem dL_law_1157 : decode cL_law 1157 = .ok (.iconst 5, 1) := by decide +kernel
theorem dL_law_1158 : decode cL_law 1158 = .ok (.iload 20, 2) := by decide +kernel
theorem dL_law_1160 : decode cL_law 1160 = .ok (.iadd, 1) := by decide +kernel
theorem dL_law_1161 : decode cL_law 1161 = .ok (.iaload, 1) := by decide +kernel
theorem dL_law_1162 : decode cL_law 1162 = .ok (.iastore, 1) := by decide +kernel
theorem dL_law_1163 : decode cL_law 1163 = .ok (.aload_n 1, 1) := by decide +kernel
theorem dL_law_1164 : decode cL_law 1164 = .ok (.iconst 1, 1) := by decide +kernel
theorem dL_law_1165 : decode cL_law 1165 = .ok (.iload 20, 2) := by decide +kernel
theorem dL_law_1167 : decode cL_law 1167 = .ok (.iload 19, 2) := by decide +kernel
theorem dL_law_1169 : decode cL_law 1169 = .ok (.iconst 0, 1) := by decide +kernel
theorem dL_law_1170 : decode cL_law 1170 = .ok (.invokestatic 95, 3) := by decide +kernel
theorem dL_law_1173 : decode cL_law 1173 = .ok (.iload 19, 2) := by decide +kernel
theorem dL_law_1175 : decode cL_law 1175 = .ok (.bipush 51, 2) := by decide +kernel
theorem dL_law_1177 : decode cL_law 1177 = .ok (.if_icmp .ge 8, 3) := by decide +kernel
theorem dL_law_1180 : decode cL_law 1180 = .ok (.iload 21, 2) := by decide +kernel
theorem dL_law_1182 : decode cL_law 1182 = .ok (.goto 5, 3) := by decide +kernel
theorem dL_law_1185 : decode cL_law 1185 = .ok (.ldc 67, 2) := by decide +kernel
theorem dL_law_1187 : decode cL_law 1187 = .ok (.if_icmp .ne 7, 3) := by decide +kernel
theorem dL_law_1190 : decode cL_law 1190 = .ok (.iconst 1, 1) := by decide +kernel
theorem dL_law_1191 : decode cL_law 1191 = .ok (.goto 4, 3) := by decide +kernel
theorem dL_law_1194 : decode cL_law 1194 = .ok (.iconst 0, 1) := by decide +kernel
theorem dL_law_1195 : decode cL_law 1195 = .ok (.istore 12, 2) := by decide +kernel
theorem dL_law_1197 : decode cL_law 1197 = .ok (.goto 44, 3) := by decide +kernel
theorem dL_law_1200 : decode cL_law 1200 = .ok (.iconst 1, 1) := by decide +kernel
theorem dL_law_1201 : decode cL_law 1201 = .ok (.iload 15, 2) := by decide +kernel
theorem dL_law_1203 : decode cL_law 1203 = .ok (.iconst 3, 1) := by decide +kernel
theorem dL_law_1204 : decode cL_law 1204 = .ok (.irem, 1) := by decide +kernel
theorem dL_law_1205 : decode cL_law 1205 = .ok (.iadd, 1) := by decide +kernel
theorem dL_law_1206 : decode cL_law 1206 = .ok (.istore 19, 2) := by decide +kernel
theorem dL_law_1208 : decode cL_law 1208 = .ok (.aload 11, 2) := by decide +kernel
theorem dL_law_1210 : decode cL_law 1210 = .ok (.iconst 0, 1) := by decide +kernel
theorem dL_law_1211 : decode cL_law 1211 = .ok (.dup2, 1) := by decide +kernel
theorem dL_law_1212 : decode cL_law 1212 = .ok (.iaload, 1) := by decide +kernel
theorem dL_law_1213 : decode cL_law 1213 = .ok (.iload 19, 2) := by decide +kernel
theorem dL_law_1215 : decode cL_law 1215 = .ok (.iadd, 1) := by decide +kernel
theorem dL_law_1216 : decode cL_law 1216 = .ok (.iastore, 1) := by decide +kernel
theorem dL_law_1217 : decode cL_law 1217 = .ok (.aload_n 1, 1) := by decide +kernel
theorem dL_law_1218 : decode cL_law 1218 = .ok (.bipush 9, 2) := by decide +kernel
theorem dL_law_1220 : decode cL_law 1220 = .ok (.iload 19, 2) := by decide +kernel
theorem dL_law_1222 : decode cL_law 1222 = .ok (.iconst 0, 1) := by decide +kernel
theorem dL_law_1223 : decode cL_law 1223 = .ok (.iconst 0, 1) := by decide +kernel
theorem dL_law_1224 : decode cL_law 1224 = .ok (.invokestatic 95, 3) := by decide +kernel
theorem dL_law_1227 : decode cL_law 1227 = .ok (.aload 11, 2) := by decide +kernel
theorem dL_law_1229 : decode cL_law 1229 = .ok (.iconst 0, 1) := by decide +kernel
theorem dL_law_1230 : decode cL_law 1230 = .ok (.iaload, 1) := by decide +kernel
theorem dL_law_1231 : decode cL_law 1231 = .ok (.if_icmp .ne 7, 3) := by decide +kernel
theorem dL_law_1234 : decode cL_law 1234 = .ok (.iconst 1, 1) := by decide +kernel
theorem dL_law_1235 : decode cL_law 1235 = .ok (.goto 4, 3) := by decide +kernel
theorem dL_law_1238 : decode cL_law 1238 = .ok (.iconst 0, 1) := by decide +kernel
theorem dL_law_1239 : decode cL_law 1239 = .ok (.istore 12, 2) := by decide +kernel
theorem dL_law_1241 : decode cL_law 1241 = .ok (.iload 12, 2) := by decide +kernel
theorem dL_law_1243 : decode cL_law 1243 = .ok (.ifCond .eq 57, 3) := by decide +kernel
theorem dL_law_1246 : decode cL_law 1246 = .ok (.aload_n 1, 1) := by decide +kernel
theorem dL_law_1247 : decode cL_law 1247 = .ok (.aload_n 2, 1) := by decide +kernel
theorem dL_law_1248 : decode cL_law 1248 = .ok (.aload_n 3, 1) := by decide +kernel
theorem dL_law_1249 : decode cL_law 1249 = .ok (.aload 4, 2) := by decide +kernel
theorem dL_law_1251 : decode cL_law 1251 = .ok (.aload 5, 2) := by decide +kernel
theorem dL_law_1253 : decode cL_law 1253 = .ok (.aload 6, 2) := by decide +kernel
theorem dL_law_1255 : decode cL_law 1255 = .ok (.aload 7, 2) := by decide +kernel
theorem dL_law_1257 : decode cL_law 1257 = .ok (.aload 8, 2) := by decide +kernel
theorem dL_law_1259 : decode cL_law 1259 = .ok (.aload 9, 2) := by decide +kernel
theorem dL_law_1261 : decode cL_law 1261 = .ok (.aload 11, 2) := by decide +kernel
theorem dL_law_1263 : decode cL_law 1263 = .ok (.iload 16, 2) := by decide +kernel
theorem dL_law_1265 : decode cL_law 1265 = .ok (.invokestatic 125, 3) := by decide +kernel
theorem dL_law_1268 : decode cL_law 1268 = .ok (.ifCond .eq 32, 3) := by decide +kernel
theorem dL_law_1271 : decode cL_law 1271 = .ok (.aload 11, 2) := by decide +kernel
theorem dL_law_1273 : decode cL_law 1273 = .ok (.iconst 4, 1) := by decide +kernel
theorem dL_law_1274 : decode cL_law 1274 = .ok (.iaload, 1) := by decide +kernel
theorem dL_law_1275 : decode cL_law 1275 = .ok (.ifCond .eq 21, 3) := by decide +kernel
theorem dL_law_1278 : decode cL_law 1278 = .ok (.aload_n 1, 1) := by decide +kernel
theorem dL_law_1279 : decode cL_law 1279 = .ok (.aload 5, 2) := by decide +kernel
theorem dL_law_1281 : decode cL_law 1281 = .ok (.aload 6, 2) := by decide +kernel
theorem dL_law_1283 : decode cL_law 1283 = .ok (.iload 15, 2) := by decide +kernel
theorem dL_law_1285 : decode cL_law 1285 = .ok (.aload 11, 2) := by decide +kernel
theorem dL_law_1287 : decode cL_law 1287 = .ok (.iconst 4, 1) := by decide +kernel
theorem dL_law_1288 : decode cL_law 1288 = .ok (.iaload, 1) := by decide +kernel
theorem dL_law_1289 : decode cL_law 1289 = .ok (.irem, 1) := by decide +kernel
theorem dL_law_1290 : decode cL_law 1290 = .ok (.invokestatic 129, 3) := by decide +kernel
theorem dL_law_1293 : decode cL_law 1293 = .ok (.ifCond .eq 7, 3) := by decide +kernel
theorem dL_law_1296 : decode cL_law 1296 = .ok (.iconst 1, 1) := by decide +kernel
theorem dL_law_1297 : decode cL_law 1297 = .ok (.goto 4, 3) := by decide +kernel
theorem dL_law_1300 : decode cL_law 1300 = .ok (.iconst 0, 1) := by decide +kernel
theorem dL_law_1301 : decode cL_law 1301 = .ok (.istore 12, 2) := by decide +kernel
theorem dL_law_1303 : decode cL_law 1303 = .ok (.iinc 13 1, 3) := by decide +kernel
theorem dL_law_1306 : decode cL_law 1306 = .ok (.goto (-1110), 3) := by decide +kernel
theorem dL_law_1309 : decode cL_law 1309 = .ok (.iload 12, 2) := by decide +kernel
theorem dL_law_1311 : decode cL_law 1311 = .ok (.ireturn, 1) := by decide +kernel
