/-! The law's decodes -/
theorem dL_isSo_0 : decode cL_isSo 0 = .ok (.iconst 1, 1) := by decide +kernel
theorem dL_isSo_1 : decode cL_isSo 1 = .ok (.istore 11, 2) := by decide +kernel
theorem dL_isSo_3 : decode cL_isSo 3 = .ok (.iload 10, 2) := by decide +kernel
theorem dL_isSo_5 : decode cL_isSo 5 = .ok (.iconst 3, 1) := by decide +kernel
theorem dL_isSo_6 : decode cL_isSo 6 = .ok (.irem, 1) := by decide +kernel
theorem dL_isSo_7 : decode cL_isSo 7 = .ok (.istore 12, 2) := by decide +kernel
theorem dL_isSo_9 : decode cL_isSo 9 = .ok (.iload 12, 2) := by decide +kernel
theorem dL_isSo_11 : decode cL_isSo 11 = .ok (.aload 9, 2) := by decide +kernel
theorem dL_isSo_13 : decode cL_isSo 13 = .ok (.iconst 2, 1) := by decide +kernel
theorem dL_isSo_14 : decode cL_isSo 14 = .ok (.iaload, 1) := by decide +kernel
theorem dL_isSo_15 : decode cL_isSo 15 = .ok (.if_icmp .ge 38, 3) := by decide +kernel
theorem dL_isSo_18 : decode cL_isSo 18 = .ok (.iload 11, 2) := by decide +kernel
theorem dL_isSo_20 : decode cL_isSo 20 = .ok (.ifCond .eq 33, 3) := by decide +kernel
theorem dL_isSo_23 : decode cL_isSo 23 = .ok (.aload_n 0, 1) := by decide +kernel
theorem dL_isSo_24 : decode cL_isSo 24 = .ok (.iload 12, 2) := by decide +kernel
theorem dL_isSo_26 : decode cL_isSo 26 = .ok (.invokevirtual 45, 3) := by decide +kernel
theorem dL_isSo_29 : decode cL_isSo 29 = .ok (.aload_n 1, 1) := by decide +kernel
theorem dL_isSo_30 : decode cL_isSo 30 = .ok (.aload_n 2, 1) := by decide +kernel
theorem dL_isSo_31 : decode cL_isSo 31 = .ok (.aload_n 3, 1) := by decide +kernel
theorem dL_isSo_32 : decode cL_isSo 32 = .ok (.iload 12, 2) := by decide +kernel
theorem dL_isSo_34 : decode cL_isSo 34 = .ok (.invokestatic 71, 3) := by decide +kernel
theorem dL_isSo_37 : decode cL_isSo 37 = .ok (.if_icmp .ne 7, 3) := by decide +kernel
theorem dL_isSo_40 : decode cL_isSo 40 = .ok (.iconst 1, 1) := by decide +kernel
theorem dL_isSo_41 : decode cL_isSo 41 = .ok (.goto 4, 3) := by decide +kernel
theorem dL_isSo_44 : decode cL_isSo 44 = .ok (.iconst 0, 1) := by decide +kernel
theorem dL_isSo_45 : decode cL_isSo 45 = .ok (.istore 11, 2) := by decide +kernel
theorem dL_isSo_47 : decode cL_isSo 47 = .ok (.iinc 12 3, 3) := by decide +kernel
theorem dL_isSo_50 : decode cL_isSo 50 = .ok (.goto (-41), 3) := by decide +kernel
theorem dL_isSo_53 : decode cL_isSo 53 = .ok (.iload 10, 2) := by decide +kernel
theorem dL_isSo_55 : decode cL_isSo 55 = .ok (.aload 9, 2) := by decide +kernel
theorem dL_isSo_57 : decode cL_isSo 57 = .ok (.iconst 3, 1) := by decide +kernel
theorem dL_isSo_58 : decode cL_isSo 58 = .ok (.iaload, 1) := by decide +kernel
theorem dL_isSo_59 : decode cL_isSo 59 = .ok (.iconst 1, 1) := by decide +kernel
theorem dL_isSo_60 : decode cL_isSo 60 = .ok (.iadd, 1) := by decide +kernel
theorem dL_isSo_61 : decode cL_isSo 61 = .ok (.irem, 1) := by decide +kernel
theorem dL_isSo_62 : decode cL_isSo 62 = .ok (.istore 12, 2) := by decide +kernel
theorem dL_isSo_64 : decode cL_isSo 64 = .ok (.iconst 0, 1) := by decide +kernel
theorem dL_isSo_65 : decode cL_isSo 65 = .ok (.istore 13, 2) := by decide +kernel
theorem dL_isSo_67 : decode cL_isSo 67 = .ok (.iload 13, 2) := by decide +kernel
theorem dL_isSo_69 : decode cL_isSo 69 = .ok (.aload 9, 2) := by decide +kernel
theorem dL_isSo_71 : decode cL_isSo 71 = .ok (.iconst 1, 1) := by decide +kernel
theorem dL_isSo_72 : decode cL_isSo 72 = .ok (.iaload, 1) := by decide +kernel
theorem dL_isSo_73 : decode cL_isSo 73 = .ok (.if_icmp .ge 172, 3) := by decide +kernel
theorem dL_isSo_76 : decode cL_isSo 76 = .ok (.iload 11, 2) := by decide +kernel
theorem dL_isSo_78 : decode cL_isSo 78 = .ok (.ifCond .eq 167, 3) := by decide +kernel
theorem dL_isSo_81 : decode cL_isSo 81 = .ok (.aload_n 1, 1) := by decide +kernel
theorem dL_isSo_82 : decode cL_isSo 82 = .ok (.aload_n 2, 1) := by decide +kernel
theorem dL_isSo_83 : decode cL_isSo 83 = .ok (.aload_n 3, 1) := by decide +kernel
theorem dL_isSo_84 : decode cL_isSo 84 = .ok (.aload 9, 2) := by decide +kernel
theorem dL_isSo_86 : decode cL_isSo 86 = .ok (.iload 12, 2) := by decide +kernel
theorem dL_isSo_88 : decode cL_isSo 88 = .ok (.iload 13, 2) := by decide +kernel
theorem dL_isSo_90 : decode cL_isSo 90 = .ok (.invokestatic 85, 3) := by decide +kernel
theorem dL_isSo_93 : decode cL_isSo 93 = .ok (.istore 14, 2) := by decide +kernel
theorem dL_isSo_95 : decode cL_isSo 95 = .ok (.iconst 1, 1) := by decide +kernel
theorem dL_isSo_96 : decode cL_isSo 96 = .ok (.istore 15, 2) := by decide +kernel
theorem dL_isSo_98 : decode cL_isSo 98 = .ok (.iconst 0, 1) := by decide +kernel
theorem dL_isSo_99 : decode cL_isSo 99 = .ok (.istore 16, 2) := by decide +kernel
theorem dL_isSo_101 : decode cL_isSo 101 = .ok (.iload 16, 2) := by decide +kernel
theorem dL_isSo_103 : decode cL_isSo 103 = .ok (.aload 9, 2) := by decide +kernel
theorem dL_isSo_105 : decode cL_isSo 105 = .ok (.iconst 1, 1) := by decide +kernel
theorem dL_isSo_106 : decode cL_isSo 106 = .ok (.iaload, 1) := by decide +kernel
theorem dL_isSo_107 : decode cL_isSo 107 = .ok (.if_icmp .ge 36, 3) := by decide +kernel
theorem dL_isSo_110 : decode cL_isSo 110 = .ok (.iload 15, 2) := by decide +kernel
theorem dL_isSo_112 : decode cL_isSo 112 = .ok (.aload_n 1, 1) := by decide +kernel
theorem dL_isSo_113 : decode cL_isSo 113 = .ok (.aload_n 2, 1) := by decide +kernel
theorem dL_isSo_114 : decode cL_isSo 114 = .ok (.aload_n 3, 1) := by decide +kernel
theorem dL_isSo_115 : decode cL_isSo 115 = .ok (.aload 9, 2) := by decide +kernel
theorem dL_isSo_117 : decode cL_isSo 117 = .ok (.iload 12, 2) := by decide +kernel
theorem dL_isSo_119 : decode cL_isSo 119 = .ok (.iload 16, 2) := by decide +kernel
theorem dL_isSo_121 : decode cL_isSo 121 = .ok (.invokestatic 85, 3) := by decide +kernel
theorem dL_isSo_124 : decode cL_isSo 124 = .ok (.iload 14, 2) := by decide +kernel
theorem dL_isSo_126 : decode cL_isSo 126 = .ok (.if_icmp .ge 7, 3) := by decide +kernel
theorem dL_isSo_129 : decode cL_isSo 129 = .ok (.iconst 1, 1) := by decide +kernel
theorem dL_isSo_130 : decode cL_isSo 130 = .ok (.goto 4, 3) := by decide +kernel
theorem dL_isSo_133 : decode cL_isSo 133 = .ok (.iconst 0, 1) := by decide +kernel
theorem dL_isSo_134 : decode cL_isSo 134 = .ok (.iadd, 1) := by decide +kernel
theorem dL_isSo_135 : decode cL_isSo 135 = .ok (.istore 15, 2) := by decide +kernel
theorem dL_isSo_137 : decode cL_isSo 137 = .ok (.iinc 16 1, 3) := by decide +kernel
theorem dL_isSo_140 : decode cL_isSo 140 = .ok (.goto (-39), 3) := by decide +kernel
theorem dL_isSo_143 : decode cL_isSo 143 = .ok (.aload_n 0, 1) := by decide +kernel
theorem dL_isSo_144 : decode cL_isSo 144 = .ok (.iload 13, 2) := by decide +kernel
theorem dL_isSo_146 : decode cL_isSo 146 = .ok (.invokevirtual 55, 3) := by decide +kernel
theorem dL_isSo_149 : decode cL_isSo 149 = .ok (.aload_n 1, 1) := by decide +kernel
theorem dL_isSo_150 : decode cL_isSo 150 = .ok (.bipush 32, 2) := by decide +kernel
theorem dL_isSo_152 : decode cL_isSo 152 = .ok (.iload 13, 2) := by decide +kernel
theorem dL_isSo_154 : decode cL_isSo 154 = .ok (.iadd, 1) := by decide +kernel
theorem dL_isSo_155 : decode cL_isSo 155 = .ok (.iaload, 1) := by decide +kernel
theorem dL_isSo_156 : decode cL_isSo 156 = .ok (.if_icmp .ne 80, 3) := by decide +kernel
theorem dL_isSo_159 : decode cL_isSo 159 = .ok (.aload_n 0, 1) := by decide +kernel
theorem dL_isSo_160 : decode cL_isSo 160 = .ok (.iload 12, 2) := by decide +kernel
theorem dL_isSo_162 : decode cL_isSo 162 = .ok (.iload 13, 2) := by decide +kernel
theorem dL_isSo_164 : decode cL_isSo 164 = .ok (.iconst 0, 1) := by decide +kernel
theorem dL_isSo_165 : decode cL_isSo 165 = .ok (.invokevirtual 49, 3) := by decide +kernel
theorem dL_isSo_168 : decode cL_isSo 168 = .ok (.aload_n 1, 1) := by decide +kernel
theorem dL_isSo_169 : decode cL_isSo 169 = .ok (.aload_n 2, 1) := by decide +kernel
theorem dL_isSo_170 : decode cL_isSo 170 = .ok (.aload_n 3, 1) := by decide +kernel
theorem dL_isSo_171 : decode cL_isSo 171 = .ok (.aload 9, 2) := by decide +kernel
theorem dL_isSo_173 : decode cL_isSo 173 = .ok (.iload 12, 2) := by decide +kernel
theorem dL_isSo_175 : decode cL_isSo 175 = .ok (.iload 13, 2) := by decide +kernel
theorem dL_isSo_177 : decode cL_isSo 177 = .ok (.invokestatic 77, 3) := by decide +kernel
theorem dL_isSo_180 : decode cL_isSo 180 = .ok (.if_icmp .ne 56, 3) := by decide +kernel
theorem dL_isSo_183 : decode cL_isSo 183 = .ok (.aload_n 0, 1) := by decide +kernel
theorem dL_isSo_184 : decode cL_isSo 184 = .ok (.iload 12, 2) := by decide +kernel
theorem dL_isSo_186 : decode cL_isSo 186 = .ok (.iload 13, 2) := by decide +kernel
theorem dL_isSo_188 : decode cL_isSo 188 = .ok (.iconst 1, 1) := by decide +kernel
theorem dL_isSo_189 : decode cL_isSo 189 = .ok (.invokevirtual 49, 3) := by decide +kernel
theorem dL_isSo_192 : decode cL_isSo 192 = .ok (.aload_n 1, 1) := by decide +kernel
theorem dL_isSo_193 : decode cL_isSo 193 = .ok (.aload_n 2, 1) := by decide +kernel
theorem dL_isSo_194 : decode cL_isSo 194 = .ok (.aload_n 3, 1) := by decide +kernel
theorem dL_isSo_195 : decode cL_isSo 195 = .ok (.aload 9, 2) := by decide +kernel
theorem dL_isSo_197 : decode cL_isSo 197 = .ok (.iload 12, 2) := by decide +kernel
theorem dL_isSo_199 : decode cL_isSo 199 = .ok (.iload 13, 2) := by decide +kernel
theorem dL_isSo_201 : decode cL_isSo 201 = .ok (.invokestatic 82, 3) := by decide +kernel
theorem dL_isSo_204 : decode cL_isSo 204 = .ok (.if_icmp .ne 32, 3) := by decide +kernel
theorem dL_isSo_207 : decode cL_isSo 207 = .ok (.aload_n 0, 1) := by decide +kernel
theorem dL_isSo_208 : decode cL_isSo 208 = .ok (.iload 12, 2) := by decide +kernel
theorem dL_isSo_210 : decode cL_isSo 210 = .ok (.iload 13, 2) := by decide +kernel
theorem dL_isSo_212 : decode cL_isSo 212 = .ok (.iconst 2, 1) := by decide +kernel
theorem dL_isSo_213 : decode cL_isSo 213 = .ok (.invokevirtual 49, 3) := by decide +kernel
theorem dL_isSo_216 : decode cL_isSo 216 = .ok (.iload 14, 2) := by decide +kernel
theorem dL_isSo_218 : decode cL_isSo 218 = .ok (.ldc 81, 2) := by decide +kernel
theorem dL_isSo_220 : decode cL_isSo 220 = .ok (.if_icmp .ne 7, 3) := by decide +kernel
theorem dL_isSo_223 : decode cL_isSo 223 = .ok (.iconst 0, 1) := by decide +kernel
theorem dL_isSo_224 : decode cL_isSo 224 = .ok (.goto 5, 3) := by decide +kernel
theorem dL_isSo_227 : decode cL_isSo 227 = .ok (.iload 15, 2) := by decide +kernel
theorem dL_isSo_229 : decode cL_isSo 229 = .ok (.if_icmp .ne 7, 3) := by decide +kernel
theorem dL_isSo_232 : decode cL_isSo 232 = .ok (.iconst 1, 1) := by decide +kernel
theorem dL_isSo_233 : decode cL_isSo 233 = .ok (.goto 4, 3) := by decide +kernel
theorem dL_isSo_236 : decode cL_isSo 236 = .ok (.iconst 0, 1) := by decide +kernel
theorem dL_isSo_237 : decode cL_isSo 237 = .ok (.istore 11, 2) := by decide +kernel
theorem dL_isSo_239 : decode cL_isSo 239 = .ok (.iinc 13 1, 3) := by decide +kernel
theorem dL_isSo_242 : decode cL_isSo 242 = .ok (.goto (-175), 3) := by decide +kernel
theorem dL_isSo_245 : decode cL_isSo 245 = .ok (.iconst 0, 1) := by decide +kernel
theorem dL_isSo_246 : decode cL_isSo 246 = .ok (.istore 13, 2) := by decide +kernel
theorem dL_isSo_248 : decode cL_isSo 248 = .ok (.iload 13, 2) := by decide +kernel
theorem dL_isSo_250 : decode cL_isSo 250 = .ok (.aload 9, 2) := by decide +kernel
theorem dL_isSo_252 : decode cL_isSo 252 = .ok (.iconst 4, 1) := by decide +kernel
theorem dL_isSo_253 : decode cL_isSo 253 = .ok (.iaload, 1) := by decide +kernel
theorem dL_isSo_254 : decode cL_isSo 254 = .ok (.if_icmp .ge 199, 3) := by decide +kernel
theorem dL_isSo_257 : decode cL_isSo 257 = .ok (.iload 11, 2) := by decide +kernel
theorem dL_isSo_259 : decode cL_isSo 259 = .ok (.ifCond .eq 194, 3) := by decide +kernel
theorem dL_isSo_262 : decode cL_isSo 262 = .ok (.aload 5, 2) := by decide +kernel
theorem dL_isSo_264 : decode cL_isSo 264 = .ok (.iload 13, 2) := by decide +kernel
theorem dL_isSo_266 : decode cL_isSo 266 = .ok (.iaload, 1) := by decide +kernel
theorem dL_isSo_267 : decode cL_isSo 267 = .ok (.bipush 32, 2) := by decide +kernel
theorem dL_isSo_269 : decode cL_isSo 269 = .ok (.idiv, 1) := by decide +kernel
theorem dL_isSo_270 : decode cL_isSo 270 = .ok (.bipush 32, 2) := by decide +kernel
theorem dL_isSo_272 : decode cL_isSo 272 = .ok (.irem, 1) := by decide +kernel
theorem dL_isSo_273 : decode cL_isSo 273 = .ok (.iconst 1, 1) := by decide +kernel
theorem dL_isSo_274 : decode cL_isSo 274 = .ok (.isub, 1) := by decide +kernel
theorem dL_isSo_275 : decode cL_isSo 275 = .ok (.istore 14, 2) := by decide +kernel
theorem dL_isSo_277 : decode cL_isSo 277 = .ok (.aload 5, 2) := by decide +kernel
theorem dL_isSo_279 : decode cL_isSo 279 = .ok (.iload 13, 2) := by decide +kernel
theorem dL_isSo_281 : decode cL_isSo 281 = .ok (.iaload, 1) := by decide +kernel
theorem dL_isSo_282 : decode cL_isSo 282 = .ok (.sipush 1024, 3) := by decide +kernel
theorem dL_isSo_285 : decode cL_isSo 285 = .ok (.idiv, 1) := by decide +kernel
theorem dL_isSo_286 : decode cL_isSo 286 = .ok (.iconst 1, 1) := by decide +kernel
theorem dL_isSo_287 : decode cL_isSo 287 = .ok (.isub, 1) := by decide +kernel
theorem dL_isSo_288 : decode cL_isSo 288 = .ok (.istore 15, 2) := by decide +kernel
theorem dL_isSo_290 : decode cL_isSo 290 = .ok (.iload 14, 2) := by decide +kernel
theorem dL_isSo_292 : decode cL_isSo 292 = .ok (.ifCond .lt 25, 3) := by decide +kernel
theorem dL_isSo_295 : decode cL_isSo 295 = .ok (.iload 15, 2) := by decide +kernel
theorem dL_isSo_297 : decode cL_isSo 297 = .ok (.ifCond .lt 20, 3) := by decide +kernel
theorem dL_isSo_300 : decode cL_isSo 300 = .ok (.aload 9, 2) := by decide +kernel
theorem dL_isSo_302 : decode cL_isSo 302 = .ok (.iconst 0, 1) := by decide +kernel
theorem dL_isSo_303 : decode cL_isSo 303 = .ok (.iaload, 1) := by decide +kernel
theorem dL_isSo_304 : decode cL_isSo 304 = .ok (.aload 6, 2) := by decide +kernel
theorem dL_isSo_306 : decode cL_isSo 306 = .ok (.iload 13, 2) := by decide +kernel
theorem dL_isSo_308 : decode cL_isSo 308 = .ok (.iaload, 1) := by decide +kernel
theorem dL_isSo_309 : decode cL_isSo 309 = .ok (.if_icmp .gt 8, 3) := by decide +kernel
theorem dL_isSo_312 : decode cL_isSo 312 = .ok (.iload 15, 2) := by decide +kernel
theorem dL_isSo_314 : decode cL_isSo 314 = .ok (.goto 5, 3) := by decide +kernel
theorem dL_isSo_317 : decode cL_isSo 317 = .ok (.iload 14, 2) := by decide +kernel
theorem dL_isSo_319 : decode cL_isSo 319 = .ok (.istore 16, 2) := by decide +kernel
theorem dL_isSo_321 : decode cL_isSo 321 = .ok (.aload_n 0, 1) := by decide +kernel
theorem dL_isSo_322 : decode cL_isSo 322 = .ok (.iload 13, 2) := by decide +kernel
theorem dL_isSo_324 : decode cL_isSo 324 = .ok (.iconst 0, 1) := by decide +kernel
theorem dL_isSo_325 : decode cL_isSo 325 = .ok (.invokevirtual 52, 3) := by decide +kernel
theorem dL_isSo_328 : decode cL_isSo 328 = .ok (.iload 14, 2) := by decide +kernel
theorem dL_isSo_330 : decode cL_isSo 330 = .ok (.if_icmp .ne 114, 3) := by decide +kernel
theorem dL_isSo_333 : decode cL_isSo 333 = .ok (.aload_n 0, 1) := by decide +kernel
theorem dL_isSo_334 : decode cL_isSo 334 = .ok (.iload 13, 2) := by decide +kernel
theorem dL_isSo_336 : decode cL_isSo 336 = .ok (.iconst 1, 1) := by decide +kernel
theorem dL_isSo_337 : decode cL_isSo 337 = .ok (.invokevirtual 52, 3) := by decide +kernel
theorem dL_isSo_340 : decode cL_isSo 340 = .ok (.aload 5, 2) := by decide +kernel
theorem dL_isSo_342 : decode cL_isSo 342 = .ok (.iload 13, 2) := by decide +kernel
theorem dL_isSo_344 : decode cL_isSo 344 = .ok (.iaload, 1) := by decide +kernel
theorem dL_isSo_345 : decode cL_isSo 345 = .ok (.bipush 32, 2) := by decide +kernel
theorem dL_isSo_347 : decode cL_isSo 347 = .ok (.irem, 1) := by decide +kernel
theorem dL_isSo_348 : decode cL_isSo 348 = .ok (.iconst 1, 1) := by decide +kernel
theorem dL_isSo_349 : decode cL_isSo 349 = .ok (.isub, 1) := by decide +kernel
theorem dL_isSo_350 : decode cL_isSo 350 = .ok (.if_icmp .ne 94, 3) := by decide +kernel
theorem dL_isSo_353 : decode cL_isSo 353 = .ok (.aload_n 0, 1) := by decide +kernel
theorem dL_isSo_354 : decode cL_isSo 354 = .ok (.iload 13, 2) := by decide +kernel
theorem dL_isSo_356 : decode cL_isSo 356 = .ok (.iconst 2, 1) := by decide +kernel
theorem dL_isSo_357 : decode cL_isSo 357 = .ok (.invokevirtual 52, 3) := by decide +kernel
theorem dL_isSo_360 : decode cL_isSo 360 = .ok (.iload 16, 2) := by decide +kernel
theorem dL_isSo_362 : decode cL_isSo 362 = .ok (.if_icmp .ne 82, 3) := by decide +kernel
theorem dL_isSo_365 : decode cL_isSo 365 = .ok (.aload_n 0, 1) := by decide +kernel
theorem dL_isSo_366 : decode cL_isSo 366 = .ok (.iload 13, 2) := by decide +kernel
theorem dL_isSo_368 : decode cL_isSo 368 = .ok (.iconst 3, 1) := by decide +kernel
theorem dL_isSo_369 : decode cL_isSo 369 = .ok (.invokevirtual 52, 3) := by decide +kernel
theorem dL_isSo_372 : decode cL_isSo 372 = .ok (.aload 4, 2) := by decide +kernel
theorem dL_isSo_374 : decode cL_isSo 374 = .ok (.iload 13, 2) := by decide +kernel
theorem dL_isSo_376 : decode cL_isSo 376 = .ok (.iaload, 1) := by decide +kernel
theorem dL_isSo_377 : decode cL_isSo 377 = .ok (.bipush 16, 2) := by decide +kernel
theorem dL_isSo_379 : decode cL_isSo 379 = .ok (.irem, 1) := by decide +kernel
theorem dL_isSo_380 : decode cL_isSo 380 = .ok (.if_icmp .ne 64, 3) := by decide +kernel
theorem dL_isSo_383 : decode cL_isSo 383 = .ok (.aload_n 0, 1) := by decide +kernel
theorem dL_isSo_384 : decode cL_isSo 384 = .ok (.iload 13, 2) := by decide +kernel
theorem dL_isSo_386 : decode cL_isSo 386 = .ok (.iconst 4, 1) := by decide +kernel
theorem dL_isSo_387 : decode cL_isSo 387 = .ok (.invokevirtual 52, 3) := by decide +kernel
theorem dL_isSo_390 : decode cL_isSo 390 = .ok (.aload 4, 2) := by decide +kernel
theorem dL_isSo_392 : decode cL_isSo 392 = .ok (.iload 13, 2) := by decide +kernel
theorem dL_isSo_394 : decode cL_isSo 394 = .ok (.iaload, 1) := by decide +kernel
theorem dL_isSo_395 : decode cL_isSo 395 = .ok (.bipush 16, 2) := by decide +kernel
theorem dL_isSo_397 : decode cL_isSo 397 = .ok (.idiv, 1) := by decide +kernel
theorem dL_isSo_398 : decode cL_isSo 398 = .ok (.if_icmp .ne 46, 3) := by decide +kernel
theorem dL_isSo_401 : decode cL_isSo 401 = .ok (.aload_n 0, 1) := by decide +kernel
theorem dL_isSo_402 : decode cL_isSo 402 = .ok (.iload 13, 2) := by decide +kernel
theorem dL_isSo_404 : decode cL_isSo 404 = .ok (.iconst 5, 1) := by decide +kernel
theorem dL_isSo_405 : decode cL_isSo 405 = .ok (.invokevirtual 52, 3) := by decide +kernel
theorem dL_isSo_408 : decode cL_isSo 408 = .ok (.aload 8, 2) := by decide +kernel
theorem dL_isSo_410 : decode cL_isSo 410 = .ok (.iload 13, 2) := by decide +kernel
theorem dL_isSo_412 : decode cL_isSo 412 = .ok (.iaload, 1) := by decide +kernel
theorem dL_isSo_413 : decode cL_isSo 413 = .ok (.if_icmp .ne 31, 3) := by decide +kernel
theorem dL_isSo_416 : decode cL_isSo 416 = .ok (.aload_n 0, 1) := by decide +kernel
theorem dL_isSo_417 : decode cL_isSo 417 = .ok (.iload 13, 2) := by decide +kernel
theorem dL_isSo_419 : decode cL_isSo 419 = .ok (.bipush 6, 2) := by decide +kernel
theorem dL_isSo_421 : decode cL_isSo 421 = .ok (.invokevirtual 52, 3) := by decide +kernel
theorem dL_isSo_424 : decode cL_isSo 424 = .ok (.aload 7, 2) := by decide +kernel
theorem dL_isSo_426 : decode cL_isSo 426 = .ok (.iload 13, 2) := by decide +kernel
theorem dL_isSo_428 : decode cL_isSo 428 = .ok (.iaload, 1) := by decide +kernel
theorem dL_isSo_429 : decode cL_isSo 429 = .ok (.ifCond .le 7, 3) := by decide +kernel
theorem dL_isSo_432 : decode cL_isSo 432 = .ok (.iconst 1, 1) := by decide +kernel
theorem dL_isSo_433 : decode cL_isSo 433 = .ok (.goto 4, 3) := by decide +kernel
theorem dL_isSo_436 : decode cL_isSo 436 = .ok (.iconst 0, 1) := by decide +kernel
theorem dL_isSo_437 : decode cL_isSo 437 = .ok (.if_icmp .ne 7, 3) := by decide +kernel
theorem dL_isSo_440 : decode cL_isSo 440 = .ok (.iconst 1, 1) := by decide +kernel
theorem dL_isSo_441 : decode cL_isSo 441 = .ok (.goto 4, 3) := by decide +kernel
theorem dL_isSo_444 : decode cL_isSo 444 = .ok (.iconst 0, 1) := by decide +kernel
theorem dL_isSo_445 : decode cL_isSo 445 = .ok (.istore 11, 2) := by decide +kernel
theorem dL_isSo_447 : decode cL_isSo 447 = .ok (.iinc 13 1, 3) := by decide +kernel
theorem dL_isSo_450 : decode cL_isSo 450 = .ok (.goto (-202), 3) := by decide +kernel
theorem dL_isSo_453 : decode cL_isSo 453 = .ok (.iload 11, 2) := by decide +kernel
theorem dL_isSo_455 : decode cL_isSo 455 = .ok (.ifCond .eq 60, 3) := by decide +kernel
theorem dL_isSo_458 : decode cL_isSo 458 = .ok (.aload_n 0, 1) := by decide +kernel
theorem dL_isSo_459 : decode cL_isSo 459 = .ok (.bipush 11, 2) := by decide +kernel
theorem dL_isSo_461 : decode cL_isSo 461 = .ok (.aload 9, 2) := by decide +kernel
theorem dL_isSo_463 : decode cL_isSo 463 = .ok (.iconst 3, 1) := by decide +kernel
theorem dL_isSo_464 : decode cL_isSo 464 = .ok (.iaload, 1) := by decide +kernel
theorem dL_isSo_465 : decode cL_isSo 465 = .ok (.iconst 1, 1) := by decide +kernel
theorem dL_isSo_466 : decode cL_isSo 466 = .ok (.iadd, 1) := by decide +kernel
theorem dL_isSo_467 : decode cL_isSo 467 = .ok (.iconst 0, 1) := by decide +kernel
theorem dL_isSo_468 : decode cL_isSo 468 = .ok (.iconst 0, 1) := by decide +kernel
theorem dL_isSo_469 : decode cL_isSo 469 = .ok (.invokestatic 95, 3) := by decide +kernel
theorem dL_isSo_472 : decode cL_isSo 472 = .ok (.ldc 64, 2) := by decide +kernel
theorem dL_isSo_474 : decode cL_isSo 474 = .ok (.if_icmp .ne 41, 3) := by decide +kernel
theorem dL_isSo_477 : decode cL_isSo 477 = .ok (.aload_n 0, 1) := by decide +kernel
theorem dL_isSo_478 : decode cL_isSo 478 = .ok (.bipush 12, 2) := by decide +kernel
theorem dL_isSo_480 : decode cL_isSo 480 = .ok (.aload 9, 2) := by decide +kernel
theorem dL_isSo_482 : decode cL_isSo 482 = .ok (.iconst 4, 1) := by decide +kernel
theorem dL_isSo_483 : decode cL_isSo 483 = .ok (.iaload, 1) := by decide +kernel
theorem dL_isSo_484 : decode cL_isSo 484 = .ok (.iconst 0, 1) := by decide +kernel
theorem dL_isSo_485 : decode cL_isSo 485 = .ok (.iconst 0, 1) := by decide +kernel
theorem dL_isSo_486 : decode cL_isSo 486 = .ok (.invokestatic 95, 3) := by decide +kernel
theorem dL_isSo_489 : decode cL_isSo 489 = .ok (.ldc 64, 2) := by decide +kernel
theorem dL_isSo_491 : decode cL_isSo 491 = .ok (.if_icmp .ne 24, 3) := by decide +kernel
theorem dL_isSo_494 : decode cL_isSo 494 = .ok (.aload_n 0, 1) := by decide +kernel
theorem dL_isSo_495 : decode cL_isSo 495 = .ok (.bipush 10, 2) := by decide +kernel
theorem dL_isSo_497 : decode cL_isSo 497 = .ok (.aload 9, 2) := by decide +kernel
theorem dL_isSo_499 : decode cL_isSo 499 = .ok (.iconst 2, 1) := by decide +kernel
theorem dL_isSo_500 : decode cL_isSo 500 = .ok (.iaload, 1) := by decide +kernel
theorem dL_isSo_501 : decode cL_isSo 501 = .ok (.iconst 0, 1) := by decide +kernel
theorem dL_isSo_502 : decode cL_isSo 502 = .ok (.iconst 0, 1) := by decide +kernel
theorem dL_isSo_503 : decode cL_isSo 503 = .ok (.invokestatic 95, 3) := by decide +kernel
theorem dL_isSo_506 : decode cL_isSo 506 = .ok (.ldc 64, 2) := by decide +kernel
theorem dL_isSo_508 : decode cL_isSo 508 = .ok (.if_icmp .ne 7, 3) := by decide +kernel
theorem dL_isSo_511 : decode cL_isSo 511 = .ok (.iconst 1, 1) := by decide +kernel
theorem dL_isSo_512 : decode cL_isSo 512 = .ok (.goto 4, 3) := by decide +kernel
theorem dL_isSo_515 : decode cL_isSo 515 = .ok (.iconst 0, 1) := by decide +kernel
theorem dL_isSo_516 : decode cL_isSo 516 = .ok (.ireturn, 1) := by decide +kernel
theorem dL_isPlay_0 : decode cL_isPlay 0 = .ok (.iload 5, 2) := by decide +kernel
theorem dL_isPlay_2 : decode cL_isPlay 2 = .ok (.aload 4, 2) := by decide +kernel
theorem dL_isPlay_4 : decode cL_isPlay 4 = .ok (.iconst 1, 1) := by decide +kernel
theorem dL_isPlay_5 : decode cL_isPlay 5 = .ok (.iaload, 1) := by decide +kernel
theorem dL_isPlay_6 : decode cL_isPlay 6 = .ok (.iconst 1, 1) := by decide +kernel
theorem dL_isPlay_7 : decode cL_isPlay 7 = .ok (.iadd, 1) := by decide +kernel
theorem dL_isPlay_8 : decode cL_isPlay 8 = .ok (.irem, 1) := by decide +kernel
theorem dL_isPlay_9 : decode cL_isPlay 9 = .ok (.istore 7, 2) := by decide +kernel
theorem dL_isPlay_11 : decode cL_isPlay 11 = .ok (.iload 6, 2) := by decide +kernel
theorem dL_isPlay_13 : decode cL_isPlay 13 = .ok (.aload 4, 2) := by decide +kernel
theorem dL_isPlay_15 : decode cL_isPlay 15 = .ok (.iconst 1, 1) := by decide +kernel
theorem dL_isPlay_16 : decode cL_isPlay 16 = .ok (.iaload, 1) := by decide +kernel
theorem dL_isPlay_17 : decode cL_isPlay 17 = .ok (.iconst 1, 1) := by decide +kernel
theorem dL_isPlay_18 : decode cL_isPlay 18 = .ok (.iadd, 1) := by decide +kernel
theorem dL_isPlay_19 : decode cL_isPlay 19 = .ok (.irem, 1) := by decide +kernel
theorem dL_isPlay_20 : decode cL_isPlay 20 = .ok (.istore 8, 2) := by decide +kernel
theorem dL_isPlay_22 : decode cL_isPlay 22 = .ok (.iload 6, 2) := by decide +kernel
theorem dL_isPlay_24 : decode cL_isPlay 24 = .ok (.bipush 17, 2) := by decide +kernel
theorem dL_isPlay_26 : decode cL_isPlay 26 = .ok (.idiv, 1) := by decide +kernel
theorem dL_isPlay_27 : decode cL_isPlay 27 = .ok (.bipush 9, 2) := by decide +kernel
theorem dL_isPlay_29 : decode cL_isPlay 29 = .ok (.irem, 1) := by decide +kernel
theorem dL_isPlay_30 : decode cL_isPlay 30 = .ok (.bipush 8, 2) := by decide +kernel
theorem dL_isPlay_32 : decode cL_isPlay 32 = .ok (.if_icmp .ne 7, 3) := by decide +kernel
theorem dL_isPlay_35 : decode cL_isPlay 35 = .ok (.iconst 4, 1) := by decide +kernel
theorem dL_isPlay_36 : decode cL_isPlay 36 = .ok (.goto 10, 3) := by decide +kernel
theorem dL_isPlay_39 : decode cL_isPlay 39 = .ok (.iload 6, 2) := by decide +kernel
theorem dL_isPlay_41 : decode cL_isPlay 41 = .ok (.bipush 17, 2) := by decide +kernel
theorem dL_isPlay_43 : decode cL_isPlay 43 = .ok (.idiv, 1) := by decide +kernel
theorem dL_isPlay_44 : decode cL_isPlay 44 = .ok (.iconst 4, 1) := by decide +kernel
theorem dL_isPlay_45 : decode cL_isPlay 45 = .ok (.irem, 1) := by decide +kernel
theorem dL_isPlay_46 : decode cL_isPlay 46 = .ok (.istore 9, 2) := by decide +kernel
theorem dL_isPlay_48 : decode cL_isPlay 48 = .ok (.iload 7, 2) := by decide +kernel
theorem dL_isPlay_50 : decode cL_isPlay 50 = .ok (.aload 4, 2) := by decide +kernel
theorem dL_isPlay_52 : decode cL_isPlay 52 = .ok (.iconst 1, 1) := by decide +kernel
theorem dL_isPlay_53 : decode cL_isPlay 53 = .ok (.iaload, 1) := by decide +kernel
theorem dL_isPlay_54 : decode cL_isPlay 54 = .ok (.if_icmp .ge 22, 3) := by decide +kernel
theorem dL_isPlay_57 : decode cL_isPlay 57 = .ok (.iload 8, 2) := by decide +kernel
theorem dL_isPlay_59 : decode cL_isPlay 59 = .ok (.aload 4, 2) := by decide +kernel
theorem dL_isPlay_61 : decode cL_isPlay 61 = .ok (.iconst 1, 1) := by decide +kernel
theorem dL_isPlay_62 : decode cL_isPlay 62 = .ok (.iaload, 1) := by decide +kernel
theorem dL_isPlay_63 : decode cL_isPlay 63 = .ok (.if_icmp .ge 13, 3) := by decide +kernel
theorem dL_isPlay_66 : decode cL_isPlay 66 = .ok (.iload 9, 2) := by decide +kernel
theorem dL_isPlay_68 : decode cL_isPlay 68 = .ok (.iconst 4, 1) := by decide +kernel
theorem dL_isPlay_69 : decode cL_isPlay 69 = .ok (.if_icmp .ge 7, 3) := by decide +kernel
theorem dL_isPlay_72 : decode cL_isPlay 72 = .ok (.iconst 1, 1) := by decide +kernel
theorem dL_isPlay_73 : decode cL_isPlay 73 = .ok (.goto 4, 3) := by decide +kernel
theorem dL_isPlay_76 : decode cL_isPlay 76 = .ok (.iconst 0, 1) := by decide +kernel
theorem dL_isPlay_77 : decode cL_isPlay 77 = .ok (.istore 10, 2) := by decide +kernel
theorem dL_isPlay_79 : decode cL_isPlay 79 = .ok (.iconst 0, 1) := by decide +kernel
theorem dL_isPlay_80 : decode cL_isPlay 80 = .ok (.istore 11, 2) := by decide +kernel
theorem dL_isPlay_82 : decode cL_isPlay 82 = .ok (.iconst 0, 1) := by decide +kernel
theorem dL_isPlay_83 : decode cL_isPlay 83 = .ok (.istore 12, 2) := by decide +kernel
theorem dL_isPlay_85 : decode cL_isPlay 85 = .ok (.iload 12, 2) := by decide +kernel
theorem dL_isPlay_87 : decode cL_isPlay 87 = .ok (.aload 4, 2) := by decide +kernel
theorem dL_isPlay_89 : decode cL_isPlay 89 = .ok (.iconst 2, 1) := by decide +kernel
theorem dL_isPlay_90 : decode cL_isPlay 90 = .ok (.iaload, 1) := by decide +kernel
theorem dL_isPlay_91 : decode cL_isPlay 91 = .ok (.if_icmp .ge 45, 3) := by decide +kernel
theorem dL_isPlay_94 : decode cL_isPlay 94 = .ok (.iload 11, 2) := by decide +kernel
theorem dL_isPlay_96 : decode cL_isPlay 96 = .ok (.aload_n 2, 1) := by decide +kernel
theorem dL_isPlay_97 : decode cL_isPlay 97 = .ok (.iload 12, 2) := by decide +kernel
theorem dL_isPlay_99 : decode cL_isPlay 99 = .ok (.iaload, 1) := by decide +kernel
theorem dL_isPlay_100 : decode cL_isPlay 100 = .ok (.sipush 256, 3) := by decide +kernel
theorem dL_isPlay_103 : decode cL_isPlay 103 = .ok (.idiv, 1) := by decide +kernel
theorem dL_isPlay_104 : decode cL_isPlay 104 = .ok (.iconst 4, 1) := by decide +kernel
theorem dL_isPlay_105 : decode cL_isPlay 105 = .ok (.irem, 1) := by decide +kernel
theorem dL_isPlay_106 : decode cL_isPlay 106 = .ok (.iload 9, 2) := by decide +kernel
theorem dL_isPlay_108 : decode cL_isPlay 108 = .ok (.if_icmp .ne 18, 3) := by decide +kernel
theorem dL_isPlay_111 : decode cL_isPlay 111 = .ok (.aload_n 3, 1) := by decide +kernel
theorem dL_isPlay_112 : decode cL_isPlay 112 = .ok (.iload 12, 2) := by decide +kernel
theorem dL_isPlay_114 : decode cL_isPlay 114 = .ok (.iaload, 1) := by decide +kernel
theorem dL_isPlay_115 : decode cL_isPlay 115 = .ok (.aload 4, 2) := by decide +kernel
theorem dL_isPlay_117 : decode cL_isPlay 117 = .ok (.iconst 0, 1) := by decide +kernel
theorem dL_isPlay_118 : decode cL_isPlay 118 = .ok (.iaload, 1) := by decide +kernel
theorem dL_isPlay_119 : decode cL_isPlay 119 = .ok (.if_icmp .ne 7, 3) := by decide +kernel
theorem dL_isPlay_122 : decode cL_isPlay 122 = .ok (.iconst 1, 1) := by decide +kernel
theorem dL_isPlay_123 : decode cL_isPlay 123 = .ok (.goto 4, 3) := by decide +kernel
theorem dL_isPlay_126 : decode cL_isPlay 126 = .ok (.iconst 0, 1) := by decide +kernel
theorem dL_isPlay_127 : decode cL_isPlay 127 = .ok (.iadd, 1) := by decide +kernel
theorem dL_isPlay_128 : decode cL_isPlay 128 = .ok (.istore 11, 2) := by decide +kernel
theorem dL_isPlay_130 : decode cL_isPlay 130 = .ok (.iinc 12 1, 3) := by decide +kernel
theorem dL_isPlay_133 : decode cL_isPlay 133 = .ok (.goto (-48), 3) := by decide +kernel
theorem dL_isPlay_136 : decode cL_isPlay 136 = .ok (.iload 10, 2) := by decide +kernel
theorem dL_isPlay_138 : decode cL_isPlay 138 = .ok (.ifCond .eq 67, 3) := by decide +kernel
theorem dL_isPlay_141 : decode cL_isPlay 141 = .ok (.iload 7, 2) := by decide +kernel
theorem dL_isPlay_143 : decode cL_isPlay 143 = .ok (.iload 8, 2) := by decide +kernel
theorem dL_isPlay_145 : decode cL_isPlay 145 = .ok (.if_icmp .eq 60, 3) := by decide +kernel
theorem dL_isPlay_148 : decode cL_isPlay 148 = .ok (.aload_n 1, 1) := by decide +kernel
theorem dL_isPlay_149 : decode cL_isPlay 149 = .ok (.aload 4, 2) := by decide +kernel
theorem dL_isPlay_151 : decode cL_isPlay 151 = .ok (.iload 7, 2) := by decide +kernel
theorem dL_isPlay_153 : decode cL_isPlay 153 = .ok (.invokestatic 103, 3) := by decide +kernel
theorem dL_isPlay_156 : decode cL_isPlay 156 = .ok (.ifCond .ne 49, 3) := by decide +kernel
theorem dL_isPlay_159 : decode cL_isPlay 159 = .ok (.aload_n 1, 1) := by decide +kernel
theorem dL_isPlay_160 : decode cL_isPlay 160 = .ok (.aload 4, 2) := by decide +kernel
theorem dL_isPlay_162 : decode cL_isPlay 162 = .ok (.iload 8, 2) := by decide +kernel
theorem dL_isPlay_164 : decode cL_isPlay 164 = .ok (.invokestatic 103, 3) := by decide +kernel
theorem dL_isPlay_167 : decode cL_isPlay 167 = .ok (.ifCond .ne 38, 3) := by decide +kernel
theorem dL_isPlay_170 : decode cL_isPlay 170 = .ok (.iload 11, 2) := by decide +kernel
theorem dL_isPlay_172 : decode cL_isPlay 172 = .ok (.aload 4, 2) := by decide +kernel
theorem dL_isPlay_174 : decode cL_isPlay 174 = .ok (.iconst 5, 1) := by decide +kernel
theorem dL_isPlay_175 : decode cL_isPlay 175 = .ok (.iload 9, 2) := by decide +kernel
theorem dL_isPlay_177 : decode cL_isPlay 177 = .ok (.iconst 4, 1) := by decide +kernel
theorem dL_isPlay_178 : decode cL_isPlay 178 = .ok (.if_icmp .ge 8, 3) := by decide +kernel
theorem dL_isPlay_181 : decode cL_isPlay 181 = .ok (.iload 9, 2) := by decide +kernel
theorem dL_isPlay_183 : decode cL_isPlay 183 = .ok (.goto 4, 3) := by decide +kernel
theorem dL_isPlay_186 : decode cL_isPlay 186 = .ok (.iconst 0, 1) := by decide +kernel
theorem dL_isPlay_187 : decode cL_isPlay 187 = .ok (.iadd, 1) := by decide +kernel
theorem dL_isPlay_188 : decode cL_isPlay 188 = .ok (.iaload, 1) := by decide +kernel
theorem dL_isPlay_189 : decode cL_isPlay 189 = .ok (.if_icmp .ge 16, 3) := by decide +kernel
theorem dL_isPlay_192 : decode cL_isPlay 192 = .ok (.aload 4, 2) := by decide +kernel
theorem dL_isPlay_194 : decode cL_isPlay 194 = .ok (.iconst 2, 1) := by decide +kernel
theorem dL_isPlay_195 : decode cL_isPlay 195 = .ok (.iaload, 1) := by decide +kernel
theorem dL_isPlay_196 : decode cL_isPlay 196 = .ok (.bipush 60, 2) := by decide +kernel
theorem dL_isPlay_198 : decode cL_isPlay 198 = .ok (.if_icmp .ge 7, 3) := by decide +kernel
theorem dL_isPlay_201 : decode cL_isPlay 201 = .ok (.iconst 1, 1) := by decide +kernel
theorem dL_isPlay_202 : decode cL_isPlay 202 = .ok (.goto 4, 3) := by decide +kernel
theorem dL_isPlay_205 : decode cL_isPlay 205 = .ok (.iconst 0, 1) := by decide +kernel
theorem dL_isPlay_206 : decode cL_isPlay 206 = .ok (.istore 12, 2) := by decide +kernel
theorem dL_isPlay_208 : decode cL_isPlay 208 = .ok (.aload 4, 2) := by decide +kernel
theorem dL_isPlay_210 : decode cL_isPlay 210 = .ok (.iconst 2, 1) := by decide +kernel
theorem dL_isPlay_211 : decode cL_isPlay 211 = .ok (.iaload, 1) := by decide +kernel
theorem dL_isPlay_212 : decode cL_isPlay 212 = .ok (.bipush 60, 2) := by decide +kernel
theorem dL_isPlay_214 : decode cL_isPlay 214 = .ok (.if_icmp .ne 5, 3) := by decide +kernel
theorem dL_isPlay_217 : decode cL_isPlay 217 = .ok (.iconst 1, 1) := by decide +kernel
theorem dL_isPlay_218 : decode cL_isPlay 218 = .ok (.ireturn, 1) := by decide +kernel
theorem dL_isPlay_219 : decode cL_isPlay 219 = .ok (.iload 12, 2) := by decide +kernel
theorem dL_isPlay_221 : decode cL_isPlay 221 = .ok (.ifCond .eq 51, 3) := by decide +kernel
theorem dL_isPlay_224 : decode cL_isPlay 224 = .ok (.aload_n 2, 1) := by decide +kernel
theorem dL_isPlay_225 : decode cL_isPlay 225 = .ok (.aload 4, 2) := by decide +kernel
theorem dL_isPlay_227 : decode cL_isPlay 227 = .ok (.iconst 2, 1) := by decide +kernel
theorem dL_isPlay_228 : decode cL_isPlay 228 = .ok (.iaload, 1) := by decide +kernel
theorem dL_isPlay_229 : decode cL_isPlay 229 = .ok (.iload 7, 2) := by decide +kernel
theorem dL_isPlay_231 : decode cL_isPlay 231 = .ok (.bipush 16, 2) := by decide +kernel
theorem dL_isPlay_233 : decode cL_isPlay 233 = .ok (.iload 8, 2) := by decide +kernel
theorem dL_isPlay_235 : decode cL_isPlay 235 = .ok (.imul, 1) := by decide +kernel
theorem dL_isPlay_236 : decode cL_isPlay 236 = .ok (.iadd, 1) := by decide +kernel
theorem dL_isPlay_237 : decode cL_isPlay 237 = .ok (.sipush 256, 3) := by decide +kernel
theorem dL_isPlay_240 : decode cL_isPlay 240 = .ok (.iload 9, 2) := by decide +kernel
theorem dL_isPlay_242 : decode cL_isPlay 242 = .ok (.imul, 1) := by decide +kernel
theorem dL_isPlay_243 : decode cL_isPlay 243 = .ok (.iadd, 1) := by decide +kernel
theorem dL_isPlay_244 : decode cL_isPlay 244 = .ok (.sipush 1024, 3) := by decide +kernel
theorem dL_isPlay_247 : decode cL_isPlay 247 = .ok (.aload 4, 2) := by decide +kernel
theorem dL_isPlay_249 : decode cL_isPlay 249 = .ok (.iconst 3, 1) := by decide +kernel
theorem dL_isPlay_250 : decode cL_isPlay 250 = .ok (.iaload, 1) := by decide +kernel
theorem dL_isPlay_251 : decode cL_isPlay 251 = .ok (.imul, 1) := by decide +kernel
theorem dL_isPlay_252 : decode cL_isPlay 252 = .ok (.iadd, 1) := by decide +kernel
theorem dL_isPlay_253 : decode cL_isPlay 253 = .ok (.iastore, 1) := by decide +kernel
theorem dL_isPlay_254 : decode cL_isPlay 254 = .ok (.aload_n 3, 1) := by decide +kernel
theorem dL_isPlay_255 : decode cL_isPlay 255 = .ok (.aload 4, 2) := by decide +kernel
theorem dL_isPlay_257 : decode cL_isPlay 257 = .ok (.iconst 2, 1) := by decide +kernel
theorem dL_isPlay_258 : decode cL_isPlay 258 = .ok (.iaload, 1) := by decide +kernel
theorem dL_isPlay_259 : decode cL_isPlay 259 = .ok (.aload 4, 2) := by decide +kernel
theorem dL_isPlay_261 : decode cL_isPlay 261 = .ok (.iconst 0, 1) := by decide +kernel
theorem dL_isPlay_262 : decode cL_isPlay 262 = .ok (.iaload, 1) := by decide +kernel
theorem dL_isPlay_263 : decode cL_isPlay 263 = .ok (.iastore, 1) := by decide +kernel
theorem dL_isPlay_264 : decode cL_isPlay 264 = .ok (.aload 4, 2) := by decide +kernel
theorem dL_isPlay_266 : decode cL_isPlay 266 = .ok (.iconst 2, 1) := by decide +kernel
theorem dL_isPlay_267 : decode cL_isPlay 267 = .ok (.dup2, 1) := by decide +kernel
theorem dL_isPlay_268 : decode cL_isPlay 268 = .ok (.iaload, 1) := by decide +kernel
theorem dL_isPlay_269 : decode cL_isPlay 269 = .ok (.iconst 1, 1) := by decide +kernel
theorem dL_isPlay_270 : decode cL_isPlay 270 = .ok (.iadd, 1) := by decide +kernel
theorem dL_isPlay_271 : decode cL_isPlay 271 = .ok (.iastore, 1) := by decide +kernel
theorem dL_isPlay_272 : decode cL_isPlay 272 = .ok (.aload_n 0, 1) := by decide +kernel
theorem dL_isPlay_273 : decode cL_isPlay 273 = .ok (.iconst 2, 1) := by decide +kernel
theorem dL_isPlay_274 : decode cL_isPlay 274 = .ok (.iload 7, 2) := by decide +kernel
theorem dL_isPlay_276 : decode cL_isPlay 276 = .ok (.iload 8, 2) := by decide +kernel
theorem dL_isPlay_278 : decode cL_isPlay 278 = .ok (.iload 9, 2) := by decide +kernel
theorem dL_isPlay_280 : decode cL_isPlay 280 = .ok (.invokestatic 95, 3) := by decide +kernel
theorem dL_isPlay_283 : decode cL_isPlay 283 = .ok (.iload 10, 2) := by decide +kernel
theorem dL_isPlay_285 : decode cL_isPlay 285 = .ok (.ifCond .ne 8, 3) := by decide +kernel
theorem dL_isPlay_288 : decode cL_isPlay 288 = .ok (.ldc 64, 2) := by decide +kernel
theorem dL_isPlay_290 : decode cL_isPlay 290 = .ok (.goto 31, 3) := by decide +kernel
theorem dL_isPlay_293 : decode cL_isPlay 293 = .ok (.iload 7, 2) := by decide +kernel
theorem dL_isPlay_295 : decode cL_isPlay 295 = .ok (.iload 8, 2) := by decide +kernel
theorem dL_isPlay_297 : decode cL_isPlay 297 = .ok (.if_icmp .ne 8, 3) := by decide +kernel
theorem dL_isPlay_300 : decode cL_isPlay 300 = .ok (.ldc 67, 2) := by decide +kernel
theorem dL_isPlay_302 : decode cL_isPlay 302 = .ok (.goto 19, 3) := by decide +kernel
theorem dL_isPlay_305 : decode cL_isPlay 305 = .ok (.iload 12, 2) := by decide +kernel
theorem dL_isPlay_307 : decode cL_isPlay 307 = .ok (.ifCond .eq 12, 3) := by decide +kernel
theorem dL_isPlay_310 : decode cL_isPlay 310 = .ok (.aload 4, 2) := by decide +kernel
theorem dL_isPlay_312 : decode cL_isPlay 312 = .ok (.iconst 2, 1) := by decide +kernel
theorem dL_isPlay_313 : decode cL_isPlay 313 = .ok (.iaload, 1) := by decide +kernel
theorem dL_isPlay_314 : decode cL_isPlay 314 = .ok (.iconst 1, 1) := by decide +kernel
theorem dL_isPlay_315 : decode cL_isPlay 315 = .ok (.isub, 1) := by decide +kernel
theorem dL_isPlay_316 : decode cL_isPlay 316 = .ok (.goto 5, 3) := by decide +kernel
theorem dL_isPlay_319 : decode cL_isPlay 319 = .ok (.ldc 70, 2) := by decide +kernel
theorem dL_isPlay_321 : decode cL_isPlay 321 = .ok (.if_icmp .ne 7, 3) := by decide +kernel
theorem dL_isPlay_324 : decode cL_isPlay 324 = .ok (.iconst 1, 1) := by decide +kernel
theorem dL_isPlay_325 : decode cL_isPlay 325 = .ok (.goto 4, 3) := by decide +kernel
theorem dL_isPlay_328 : decode cL_isPlay 328 = .ok (.iconst 0, 1) := by decide +kernel
theorem dL_isPlay_329 : decode cL_isPlay 329 = .ok (.ireturn, 1) := by decide +kernel
theorem dL_isSkin_0 : decode cL_isSkin 0 = .ok (.iload 9, 2) := by decide +kernel
theorem dL_isSkin_2 : decode cL_isSkin 2 = .ok (.aload 7, 2) := by decide +kernel
theorem dL_isSkin_4 : decode cL_isSkin 4 = .ok (.iconst 4, 1) := by decide +kernel
theorem dL_isSkin_5 : decode cL_isSkin 5 = .ok (.iaload, 1) := by decide +kernel
theorem dL_isSkin_6 : decode cL_isSkin 6 = .ok (.iconst 1, 1) := by decide +kernel
theorem dL_isSkin_7 : decode cL_isSkin 7 = .ok (.iadd, 1) := by decide +kernel
theorem dL_isSkin_8 : decode cL_isSkin 8 = .ok (.irem, 1) := by decide +kernel
theorem dL_isSkin_9 : decode cL_isSkin 9 = .ok (.istore 11, 2) := by decide +kernel
theorem dL_isSkin_11 : decode cL_isSkin 11 = .ok (.iload 11, 2) := by decide +kernel
theorem dL_isSkin_13 : decode cL_isSkin 13 = .ok (.iconst 5, 1) := by decide +kernel
theorem dL_isSkin_14 : decode cL_isSkin 14 = .ok (.if_icmp .le 15, 3) := by decide +kernel
theorem dL_isSkin_17 : decode cL_isSkin 17 = .ok (.iload 8, 2) := by decide +kernel
theorem dL_isSkin_19 : decode cL_isSkin 19 = .ok (.ifCond .eq 10, 3) := by decide +kernel
theorem dL_isSkin_22 : decode cL_isSkin 22 = .ok (.aload 7, 2) := by decide +kernel
theorem dL_isSkin_24 : decode cL_isSkin 24 = .ok (.iconst 4, 1) := by decide +kernel
theorem dL_isSkin_25 : decode cL_isSkin 25 = .ok (.iaload, 1) := by decide +kernel
theorem dL_isSkin_26 : decode cL_isSkin 26 = .ok (.goto 5, 3) := by decide +kernel
theorem dL_isSkin_29 : decode cL_isSkin 29 = .ok (.iload 11, 2) := by decide +kernel
theorem dL_isSkin_31 : decode cL_isSkin 31 = .ok (.istore 11, 2) := by decide +kernel
theorem dL_isSkin_33 : decode cL_isSkin 33 = .ok (.iload 10, 2) := by decide +kernel
theorem dL_isSkin_35 : decode cL_isSkin 35 = .ok (.aload 7, 2) := by decide +kernel
theorem dL_isSkin_37 : decode cL_isSkin 37 = .ok (.iconst 1, 1) := by decide +kernel
theorem dL_isSkin_38 : decode cL_isSkin 38 = .ok (.iaload, 1) := by decide +kernel
theorem dL_isSkin_39 : decode cL_isSkin 39 = .ok (.iconst 1, 1) := by decide +kernel
theorem dL_isSkin_40 : decode cL_isSkin 40 = .ok (.iadd, 1) := by decide +kernel
theorem dL_isSkin_41 : decode cL_isSkin 41 = .ok (.irem, 1) := by decide +kernel
theorem dL_isSkin_42 : decode cL_isSkin 42 = .ok (.istore 12, 2) := by decide +kernel
theorem dL_isSkin_44 : decode cL_isSkin 44 = .ok (.iload 11, 2) := by decide +kernel
theorem dL_isSkin_46 : decode cL_isSkin 46 = .ok (.aload 7, 2) := by decide +kernel
theorem dL_isSkin_48 : decode cL_isSkin 48 = .ok (.iconst 4, 1) := by decide +kernel
theorem dL_isSkin_49 : decode cL_isSkin 49 = .ok (.iaload, 1) := by decide +kernel
theorem dL_isSkin_50 : decode cL_isSkin 50 = .ok (.if_icmp .ge 16, 3) := by decide +kernel
theorem dL_isSkin_53 : decode cL_isSkin 53 = .ok (.iload 12, 2) := by decide +kernel
theorem dL_isSkin_55 : decode cL_isSkin 55 = .ok (.aload 7, 2) := by decide +kernel
theorem dL_isSkin_57 : decode cL_isSkin 57 = .ok (.iconst 1, 1) := by decide +kernel
theorem dL_isSkin_58 : decode cL_isSkin 58 = .ok (.iaload, 1) := by decide +kernel
theorem dL_isSkin_59 : decode cL_isSkin 59 = .ok (.if_icmp .ge 7, 3) := by decide +kernel
theorem dL_isSkin_62 : decode cL_isSkin 62 = .ok (.iconst 1, 1) := by decide +kernel
theorem dL_isSkin_63 : decode cL_isSkin 63 = .ok (.goto 4, 3) := by decide +kernel
theorem dL_isSkin_66 : decode cL_isSkin 66 = .ok (.iconst 0, 1) := by decide +kernel
theorem dL_isSkin_67 : decode cL_isSkin 67 = .ok (.istore 13, 2) := by decide +kernel
theorem dL_isSkin_69 : decode cL_isSkin 69 = .ok (.iload 13, 2) := by decide +kernel
theorem dL_isSkin_71 : decode cL_isSkin 71 = .ok (.ifCond .eq 18, 3) := by decide +kernel
theorem dL_isSkin_74 : decode cL_isSkin 74 = .ok (.aload_n 2, 1) := by decide +kernel
theorem dL_isSkin_75 : decode cL_isSkin 75 = .ok (.iload 11, 2) := by decide +kernel
theorem dL_isSkin_77 : decode cL_isSkin 77 = .ok (.iaload, 1) := by decide +kernel
theorem dL_isSkin_78 : decode cL_isSkin 78 = .ok (.bipush 32, 2) := by decide +kernel
theorem dL_isSkin_80 : decode cL_isSkin 80 = .ok (.idiv, 1) := by decide +kernel
theorem dL_isSkin_81 : decode cL_isSkin 81 = .ok (.bipush 32, 2) := by decide +kernel
theorem dL_isSkin_83 : decode cL_isSkin 83 = .ok (.irem, 1) := by decide +kernel
theorem dL_isSkin_84 : decode cL_isSkin 84 = .ok (.iconst 1, 1) := by decide +kernel
theorem dL_isSkin_85 : decode cL_isSkin 85 = .ok (.isub, 1) := by decide +kernel
theorem dL_isSkin_86 : decode cL_isSkin 86 = .ok (.goto 4, 3) := by decide +kernel
theorem dL_isSkin_89 : decode cL_isSkin 89 = .ok (.iconst (-1), 1) := by decide +kernel
theorem dL_isSkin_90 : decode cL_isSkin 90 = .ok (.istore 14, 2) := by decide +kernel
theorem dL_isSkin_92 : decode cL_isSkin 92 = .ok (.iload 13, 2) := by decide +kernel
theorem dL_isSkin_94 : decode cL_isSkin 94 = .ok (.ifCond .eq 41, 3) := by decide +kernel
theorem dL_isSkin_97 : decode cL_isSkin 97 = .ok (.iload 14, 2) := by decide +kernel
theorem dL_isSkin_99 : decode cL_isSkin 99 = .ok (.ifCond .lt 36, 3) := by decide +kernel
theorem dL_isSkin_102 : decode cL_isSkin 102 = .ok (.iload 14, 2) := by decide +kernel
theorem dL_isSkin_104 : decode cL_isSkin 104 = .ok (.iload 12, 2) := by decide +kernel
theorem dL_isSkin_106 : decode cL_isSkin 106 = .ok (.if_icmp .eq 29, 3) := by decide +kernel
theorem dL_isSkin_109 : decode cL_isSkin 109 = .ok (.aload_n 1, 1) := by decide +kernel
theorem dL_isSkin_110 : decode cL_isSkin 110 = .ok (.aload 7, 2) := by decide +kernel
theorem dL_isSkin_112 : decode cL_isSkin 112 = .ok (.iload 14, 2) := by decide +kernel
theorem dL_isSkin_114 : decode cL_isSkin 114 = .ok (.invokestatic 103, 3) := by decide +kernel
theorem dL_isSkin_117 : decode cL_isSkin 117 = .ok (.ifCond .ne 18, 3) := by decide +kernel
theorem dL_isSkin_120 : decode cL_isSkin 120 = .ok (.aload_n 1, 1) := by decide +kernel
theorem dL_isSkin_121 : decode cL_isSkin 121 = .ok (.aload 7, 2) := by decide +kernel
theorem dL_isSkin_123 : decode cL_isSkin 123 = .ok (.iload 12, 2) := by decide +kernel
theorem dL_isSkin_125 : decode cL_isSkin 125 = .ok (.invokestatic 103, 3) := by decide +kernel
theorem dL_isSkin_128 : decode cL_isSkin 128 = .ok (.ifCond .ne 7, 3) := by decide +kernel
theorem dL_isSkin_131 : decode cL_isSkin 131 = .ok (.iconst 1, 1) := by decide +kernel
theorem dL_isSkin_132 : decode cL_isSkin 132 = .ok (.goto 4, 3) := by decide +kernel
theorem dL_isSkin_135 : decode cL_isSkin 135 = .ok (.iconst 0, 1) := by decide +kernel
theorem dL_isSkin_136 : decode cL_isSkin 136 = .ok (.istore 15, 2) := by decide +kernel
theorem dL_isSkin_138 : decode cL_isSkin 138 = .ok (.iload 8, 2) := by decide +kernel
theorem dL_isSkin_140 : decode cL_isSkin 140 = .ok (.ifCond .eq 256, 3) := by decide +kernel
theorem dL_isSkin_143 : decode cL_isSkin 143 = .ok (.iload 10, 2) := by decide +kernel
theorem dL_isSkin_145 : decode cL_isSkin 145 = .ok (.bipush 17, 2) := by decide +kernel
theorem dL_isSkin_147 : decode cL_isSkin 147 = .ok (.idiv, 1) := by decide +kernel
theorem dL_isSkin_148 : decode cL_isSkin 148 = .ok (.iconst 3, 1) := by decide +kernel
theorem dL_isSkin_149 : decode cL_isSkin 149 = .ok (.irem, 1) := by decide +kernel
theorem dL_isSkin_150 : decode cL_isSkin 150 = .ok (.ifCond .ne 12, 3) := by decide +kernel
theorem dL_isSkin_153 : decode cL_isSkin 153 = .ok (.iload 10, 2) := by decide +kernel
theorem dL_isSkin_155 : decode cL_isSkin 155 = .ok (.sipush 10002, 3) := by decide +kernel
theorem dL_isSkin_158 : decode cL_isSkin 158 = .ok (.irem, 1) := by decide +kernel
theorem dL_isSkin_159 : decode cL_isSkin 159 = .ok (.goto 9, 3) := by decide +kernel
theorem dL_isSkin_162 : decode cL_isSkin 162 = .ok (.iload 10, 2) := by decide +kernel
theorem dL_isSkin_164 : decode cL_isSkin 164 = .ok (.sipush 500, 3) := by decide +kernel
theorem dL_isSkin_167 : decode cL_isSkin 167 = .ok (.irem, 1) := by decide +kernel
theorem dL_isSkin_168 : decode cL_isSkin 168 = .ok (.istore 16, 2) := by decide +kernel
theorem dL_isSkin_170 : decode cL_isSkin 170 = .ok (.iload 16, 2) := by decide +kernel
theorem dL_isSkin_172 : decode cL_isSkin 172 = .ok (.sipush 10001, 3) := by decide +kernel
theorem dL_isSkin_175 : decode cL_isSkin 175 = .ok (.if_icmp .ge 7, 3) := by decide +kernel
theorem dL_isSkin_178 : decode cL_isSkin 178 = .ok (.iconst 1, 1) := by decide +kernel
theorem dL_isSkin_179 : decode cL_isSkin 179 = .ok (.goto 4, 3) := by decide +kernel
theorem dL_isSkin_182 : decode cL_isSkin 182 = .ok (.iconst 0, 1) := by decide +kernel
theorem dL_isSkin_183 : decode cL_isSkin 183 = .ok (.istore 17, 2) := by decide +kernel
theorem dL_isSkin_185 : decode cL_isSkin 185 = .ok (.iload 15, 2) := by decide +kernel
theorem dL_isSkin_187 : decode cL_isSkin 187 = .ok (.ifCond .eq 15, 3) := by decide +kernel
theorem dL_isSkin_190 : decode cL_isSkin 190 = .ok (.aload 5, 2) := by decide +kernel
theorem dL_isSkin_192 : decode cL_isSkin 192 = .ok (.iload 11, 2) := by decide +kernel
theorem dL_isSkin_194 : decode cL_isSkin 194 = .ok (.iaload, 1) := by decide +kernel
theorem dL_isSkin_195 : decode cL_isSkin 195 = .ok (.bipush 10, 2) := by decide +kernel
theorem dL_isSkin_197 : decode cL_isSkin 197 = .ok (.if_icmp .ne 5, 3) := by decide +kernel
theorem dL_isSkin_200 : decode cL_isSkin 200 = .ok (.iconst 1, 1) := by decide +kernel
theorem dL_isSkin_201 : decode cL_isSkin 201 = .ok (.ireturn, 1) := by decide +kernel
theorem dL_isSkin_202 : decode cL_isSkin 202 = .ok (.iload 15, 2) := by decide +kernel
theorem dL_isSkin_204 : decode cL_isSkin 204 = .ok (.ifCond .eq 21, 3) := by decide +kernel
theorem dL_isSkin_207 : decode cL_isSkin 207 = .ok (.aload_n 1, 1) := by decide +kernel
theorem dL_isSkin_208 : decode cL_isSkin 208 = .ok (.iload 14, 2) := by decide +kernel
theorem dL_isSkin_210 : decode cL_isSkin 210 = .ok (.iaload, 1) := by decide +kernel
theorem dL_isSkin_211 : decode cL_isSkin 211 = .ok (.ifCond .ge 14, 3) := by decide +kernel
theorem dL_isSkin_214 : decode cL_isSkin 214 = .ok (.aload_n 1, 1) := by decide +kernel
theorem dL_isSkin_215 : decode cL_isSkin 215 = .ok (.iload 12, 2) := by decide +kernel
theorem dL_isSkin_217 : decode cL_isSkin 217 = .ok (.iaload, 1) := by decide +kernel
theorem dL_isSkin_218 : decode cL_isSkin 218 = .ok (.ifCond .ge 7, 3) := by decide +kernel
theorem dL_isSkin_221 : decode cL_isSkin 221 = .ok (.iconst 1, 1) := by decide +kernel
theorem dL_isSkin_222 : decode cL_isSkin 222 = .ok (.goto 4, 3) := by decide +kernel
theorem dL_isSkin_225 : decode cL_isSkin 225 = .ok (.iconst 0, 1) := by decide +kernel
theorem dL_isSkin_226 : decode cL_isSkin 226 = .ok (.istore 18, 2) := by decide +kernel
theorem dL_isSkin_228 : decode cL_isSkin 228 = .ok (.iload 15, 2) := by decide +kernel
theorem dL_isSkin_230 : decode cL_isSkin 230 = .ok (.ifCond .eq 106, 3) := by decide +kernel
theorem dL_isSkin_233 : decode cL_isSkin 233 = .ok (.iload 17, 2) := by decide +kernel
theorem dL_isSkin_235 : decode cL_isSkin 235 = .ok (.ifCond .eq 101, 3) := by decide +kernel
theorem dL_isSkin_238 : decode cL_isSkin 238 = .ok (.aload 6, 2) := by decide +kernel
theorem dL_isSkin_240 : decode cL_isSkin 240 = .ok (.bipush 10, 2) := by decide +kernel
theorem dL_isSkin_242 : decode cL_isSkin 242 = .ok (.iload 11, 2) := by decide +kernel
theorem dL_isSkin_244 : decode cL_isSkin 244 = .ok (.imul, 1) := by decide +kernel
theorem dL_isSkin_245 : decode cL_isSkin 245 = .ok (.aload 5, 2) := by decide +kernel
theorem dL_isSkin_247 : decode cL_isSkin 247 = .ok (.iload 11, 2) := by decide +kernel
theorem dL_isSkin_249 : decode cL_isSkin 249 = .ok (.iaload, 1) := by decide +kernel
theorem dL_isSkin_250 : decode cL_isSkin 250 = .ok (.iadd, 1) := by decide +kernel
theorem dL_isSkin_251 : decode cL_isSkin 251 = .ok (.iload 14, 2) := by decide +kernel
theorem dL_isSkin_253 : decode cL_isSkin 253 = .ok (.bipush 16, 2) := by decide +kernel
theorem dL_isSkin_255 : decode cL_isSkin 255 = .ok (.iload 12, 2) := by decide +kernel
theorem dL_isSkin_257 : decode cL_isSkin 257 = .ok (.imul, 1) := by decide +kernel
theorem dL_isSkin_258 : decode cL_isSkin 258 = .ok (.iadd, 1) := by decide +kernel
theorem dL_isSkin_259 : decode cL_isSkin 259 = .ok (.sipush 256, 3) := by decide +kernel
theorem dL_isSkin_262 : decode cL_isSkin 262 = .ok (.iload 16, 2) := by decide +kernel
theorem dL_isSkin_264 : decode cL_isSkin 264 = .ok (.imul, 1) := by decide +kernel
theorem dL_isSkin_265 : decode cL_isSkin 265 = .ok (.iadd, 1) := by decide +kernel
theorem dL_isSkin_266 : decode cL_isSkin 266 = .ok (.iastore, 1) := by decide +kernel
theorem dL_isSkin_267 : decode cL_isSkin 267 = .ok (.aload 5, 2) := by decide +kernel
theorem dL_isSkin_269 : decode cL_isSkin 269 = .ok (.iload 11, 2) := by decide +kernel
theorem dL_isSkin_271 : decode cL_isSkin 271 = .ok (.dup2, 1) := by decide +kernel
theorem dL_isSkin_272 : decode cL_isSkin 272 = .ok (.iaload, 1) := by decide +kernel
theorem dL_isSkin_273 : decode cL_isSkin 273 = .ok (.iconst 1, 1) := by decide +kernel
theorem dL_isSkin_274 : decode cL_isSkin 274 = .ok (.iadd, 1) := by decide +kernel
theorem dL_isSkin_275 : decode cL_isSkin 275 = .ok (.iastore, 1) := by decide +kernel
theorem dL_isSkin_276 : decode cL_isSkin 276 = .ok (.aload 4, 2) := by decide +kernel
theorem dL_isSkin_278 : decode cL_isSkin 278 = .ok (.iload 11, 2) := by decide +kernel
theorem dL_isSkin_280 : decode cL_isSkin 280 = .ok (.iload 18, 2) := by decide +kernel
theorem dL_isSkin_282 : decode cL_isSkin 282 = .ok (.ifCond .eq 19, 3) := by decide +kernel
theorem dL_isSkin_285 : decode cL_isSkin 285 = .ok (.aload 4, 2) := by decide +kernel
theorem dL_isSkin_287 : decode cL_isSkin 287 = .ok (.iload 11, 2) := by decide +kernel
theorem dL_isSkin_289 : decode cL_isSkin 289 = .ok (.iaload, 1) := by decide +kernel
theorem dL_isSkin_290 : decode cL_isSkin 290 = .ok (.ifCond .ne 11, 3) := by decide +kernel
theorem dL_isSkin_293 : decode cL_isSkin 293 = .ok (.aload 5, 2) := by decide +kernel
theorem dL_isSkin_295 : decode cL_isSkin 295 = .ok (.iload 11, 2) := by decide +kernel
theorem dL_isSkin_297 : decode cL_isSkin 297 = .ok (.iaload, 1) := by decide +kernel
theorem dL_isSkin_298 : decode cL_isSkin 298 = .ok (.goto 8, 3) := by decide +kernel
theorem dL_isSkin_301 : decode cL_isSkin 301 = .ok (.aload 4, 2) := by decide +kernel
theorem dL_isSkin_303 : decode cL_isSkin 303 = .ok (.iload 11, 2) := by decide +kernel
theorem dL_isSkin_305 : decode cL_isSkin 305 = .ok (.iaload, 1) := by decide +kernel
theorem dL_isSkin_306 : decode cL_isSkin 306 = .ok (.iastore, 1) := by decide +kernel
theorem dL_isSkin_307 : decode cL_isSkin 307 = .ok (.aload_n 1, 1) := by decide +kernel
theorem dL_isSkin_308 : decode cL_isSkin 308 = .ok (.iload 12, 2) := by decide +kernel
theorem dL_isSkin_310 : decode cL_isSkin 310 = .ok (.iload 14, 2) := by decide +kernel
theorem dL_isSkin_312 : decode cL_isSkin 312 = .ok (.iload 16, 2) := by decide +kernel
theorem dL_isSkin_314 : decode cL_isSkin 314 = .ok (.invokestatic 91, 3) := by decide +kernel
theorem dL_isSkin_317 : decode cL_isSkin 317 = .ok (.aload_n 2, 1) := by decide +kernel
theorem dL_isSkin_318 : decode cL_isSkin 318 = .ok (.iload 11, 2) := by decide +kernel
theorem dL_isSkin_320 : decode cL_isSkin 320 = .ok (.aload_n 2, 1) := by decide +kernel
theorem dL_isSkin_321 : decode cL_isSkin 321 = .ok (.iload 11, 2) := by decide +kernel
theorem dL_isSkin_323 : decode cL_isSkin 323 = .ok (.iaload, 1) := by decide +kernel
theorem dL_isSkin_324 : decode cL_isSkin 324 = .ok (.bipush 32, 2) := by decide +kernel
theorem dL_isSkin_326 : decode cL_isSkin 326 = .ok (.irem, 1) := by decide +kernel
theorem dL_isSkin_327 : decode cL_isSkin 327 = .ok (.bipush 32, 2) := by decide +kernel
theorem dL_isSkin_329 : decode cL_isSkin 329 = .ok (.iload 12, 2) := by decide +kernel
theorem dL_isSkin_331 : decode cL_isSkin 331 = .ok (.iconst 1, 1) := by decide +kernel
theorem dL_isSkin_332 : decode cL_isSkin 332 = .ok (.iadd, 1) := by decide +kernel
theorem dL_isSkin_333 : decode cL_isSkin 333 = .ok (.imul, 1) := by decide +kernel
theorem dL_isSkin_334 : decode cL_isSkin 334 = .ok (.iadd, 1) := by decide +kernel
theorem dL_isSkin_335 : decode cL_isSkin 335 = .ok (.iastore, 1) := by decide +kernel
theorem dL_isSkin_336 : decode cL_isSkin 336 = .ok (.aload_n 0, 1) := by decide +kernel
theorem dL_isSkin_337 : decode cL_isSkin 337 = .ok (.iconst 4, 1) := by decide +kernel
theorem dL_isSkin_338 : decode cL_isSkin 338 = .ok (.iload 11, 2) := by decide +kernel
theorem dL_isSkin_340 : decode cL_isSkin 340 = .ok (.iload 12, 2) := by decide +kernel
theorem dL_isSkin_342 : decode cL_isSkin 342 = .ok (.iload 16, 2) := by decide +kernel
theorem dL_isSkin_344 : decode cL_isSkin 344 = .ok (.invokestatic 95, 3) := by decide +kernel
theorem dL_isSkin_347 : decode cL_isSkin 347 = .ok (.iload 13, 2) := by decide +kernel
theorem dL_isSkin_349 : decode cL_isSkin 349 = .ok (.ifCond .ne 8, 3) := by decide +kernel
theorem dL_isSkin_352 : decode cL_isSkin 352 = .ok (.ldc 64, 2) := by decide +kernel
theorem dL_isSkin_354 : decode cL_isSkin 354 = .ok (.goto 33, 3) := by decide +kernel
theorem dL_isSkin_357 : decode cL_isSkin 357 = .ok (.iload 17, 2) := by decide +kernel
theorem dL_isSkin_359 : decode cL_isSkin 359 = .ok (.ifCond .ne 8, 3) := by decide +kernel
theorem dL_isSkin_362 : decode cL_isSkin 362 = .ok (.ldc 67, 2) := by decide +kernel
theorem dL_isSkin_364 : decode cL_isSkin 364 = .ok (.goto 23, 3) := by decide +kernel
theorem dL_isSkin_367 : decode cL_isSkin 367 = .ok (.iload 15, 2) := by decide +kernel
theorem dL_isSkin_369 : decode cL_isSkin 369 = .ok (.ifCond .ne 8, 3) := by decide +kernel
theorem dL_isSkin_372 : decode cL_isSkin 372 = .ok (.ldc 70, 2) := by decide +kernel
theorem dL_isSkin_374 : decode cL_isSkin 374 = .ok (.goto 13, 3) := by decide +kernel
theorem dL_isSkin_377 : decode cL_isSkin 377 = .ok (.iload 18, 2) := by decide +kernel
theorem dL_isSkin_379 : decode cL_isSkin 379 = .ok (.ifCond .eq 7, 3) := by decide +kernel
theorem dL_isSkin_382 : decode cL_isSkin 382 = .ok (.iconst 1, 1) := by decide +kernel
theorem dL_isSkin_383 : decode cL_isSkin 383 = .ok (.goto 4, 3) := by decide +kernel
theorem dL_isSkin_386 : decode cL_isSkin 386 = .ok (.iconst 0, 1) := by decide +kernel
theorem dL_isSkin_387 : decode cL_isSkin 387 = .ok (.if_icmp .ne 7, 3) := by decide +kernel
theorem dL_isSkin_390 : decode cL_isSkin 390 = .ok (.iconst 1, 1) := by decide +kernel
theorem dL_isSkin_391 : decode cL_isSkin 391 = .ok (.goto 4, 3) := by decide +kernel
theorem dL_isSkin_394 : decode cL_isSkin 394 = .ok (.iconst 0, 1) := by decide +kernel
theorem dL_isSkin_395 : decode cL_isSkin 395 = .ok (.ireturn, 1) := by decide +kernel
theorem dL_isSkin_396 : decode cL_isSkin 396 = .ok (.iload 10, 2) := by decide +kernel
theorem dL_isSkin_398 : decode cL_isSkin 398 = .ok (.bipush 17, 2) := by decide +kernel
theorem dL_isSkin_400 : decode cL_isSkin 400 = .ok (.idiv, 1) := by decide +kernel
theorem dL_isSkin_401 : decode cL_isSkin 401 = .ok (.bipush 102, 2) := by decide +kernel
theorem dL_isSkin_403 : decode cL_isSkin 403 = .ok (.irem, 1) := by decide +kernel
theorem dL_isSkin_404 : decode cL_isSkin 404 = .ok (.istore 16, 2) := by decide +kernel
theorem dL_isSkin_406 : decode cL_isSkin 406 = .ok (.iload 16, 2) := by decide +kernel
theorem dL_isSkin_408 : decode cL_isSkin 408 = .ok (.ifCond .le 14, 3) := by decide +kernel
theorem dL_isSkin_411 : decode cL_isSkin 411 = .ok (.iload 16, 2) := by decide +kernel
theorem dL_isSkin_413 : decode cL_isSkin 413 = .ok (.bipush 101, 2) := by decide +kernel
theorem dL_isSkin_415 : decode cL_isSkin 415 = .ok (.if_icmp .ge 7, 3) := by decide +kernel
theorem dL_isSkin_418 : decode cL_isSkin 418 = .ok (.iconst 1, 1) := by decide +kernel
theorem dL_isSkin_419 : decode cL_isSkin 419 = .ok (.goto 4, 3) := by decide +kernel
theorem dL_isSkin_422 : decode cL_isSkin 422 = .ok (.iconst 0, 1) := by decide +kernel
theorem dL_isSkin_423 : decode cL_isSkin 423 = .ok (.istore 17, 2) := by decide +kernel
theorem dL_isSkin_425 : decode cL_isSkin 425 = .ok (.iload 15, 2) := by decide +kernel
theorem dL_isSkin_427 : decode cL_isSkin 427 = .ok (.ifCond .eq 42, 3) := by decide +kernel
theorem dL_isSkin_430 : decode cL_isSkin 430 = .ok (.iload 17, 2) := by decide +kernel
theorem dL_isSkin_432 : decode cL_isSkin 432 = .ok (.ifCond .eq 37, 3) := by decide +kernel
theorem dL_isSkin_435 : decode cL_isSkin 435 = .ok (.aload_n 2, 1) := by decide +kernel
theorem dL_isSkin_436 : decode cL_isSkin 436 = .ok (.iload 11, 2) := by decide +kernel
theorem dL_isSkin_438 : decode cL_isSkin 438 = .ok (.aload_n 2, 1) := by decide +kernel
theorem dL_isSkin_439 : decode cL_isSkin 439 = .ok (.iload 11, 2) := by decide +kernel
theorem dL_isSkin_441 : decode cL_isSkin 441 = .ok (.iaload, 1) := by decide +kernel
theorem dL_isSkin_442 : decode cL_isSkin 442 = .ok (.sipush 1024, 3) := by decide +kernel
theorem dL_isSkin_445 : decode cL_isSkin 445 = .ok (.irem, 1) := by decide +kernel
theorem dL_isSkin_446 : decode cL_isSkin 446 = .ok (.sipush 1024, 3) := by decide +kernel
theorem dL_isSkin_449 : decode cL_isSkin 449 = .ok (.iload 12, 2) := by decide +kernel
theorem dL_isSkin_451 : decode cL_isSkin 451 = .ok (.iconst 1, 1) := by decide +kernel
theorem dL_isSkin_452 : decode cL_isSkin 452 = .ok (.iadd, 1) := by decide +kernel
theorem dL_isSkin_453 : decode cL_isSkin 453 = .ok (.imul, 1) := by decide +kernel
theorem dL_isSkin_454 : decode cL_isSkin 454 = .ok (.iadd, 1) := by decide +kernel
theorem dL_isSkin_455 : decode cL_isSkin 455 = .ok (.iastore, 1) := by decide +kernel
theorem dL_isSkin_456 : decode cL_isSkin 456 = .ok (.aload_n 3, 1) := by decide +kernel
theorem dL_isSkin_457 : decode cL_isSkin 457 = .ok (.iload 11, 2) := by decide +kernel
theorem dL_isSkin_459 : decode cL_isSkin 459 = .ok (.aload 7, 2) := by decide +kernel
theorem dL_isSkin_461 : decode cL_isSkin 461 = .ok (.iconst 0, 1) := by decide +kernel
theorem dL_isSkin_462 : decode cL_isSkin 462 = .ok (.iaload, 1) := by decide +kernel
theorem dL_isSkin_463 : decode cL_isSkin 463 = .ok (.iload 16, 2) := by decide +kernel
theorem dL_isSkin_465 : decode cL_isSkin 465 = .ok (.iadd, 1) := by decide +kernel
theorem dL_isSkin_466 : decode cL_isSkin 466 = .ok (.iconst 1, 1) := by decide +kernel
theorem dL_isSkin_467 : decode cL_isSkin 467 = .ok (.isub, 1) := by decide +kernel
theorem dL_isSkin_468 : decode cL_isSkin 468 = .ok (.iastore, 1) := by decide +kernel
theorem dL_isSkin_469 : decode cL_isSkin 469 = .ok (.aload_n 0, 1) := by decide +kernel
theorem dL_isSkin_470 : decode cL_isSkin 470 = .ok (.iconst 5, 1) := by decide +kernel
theorem dL_isSkin_471 : decode cL_isSkin 471 = .ok (.iload 11, 2) := by decide +kernel
theorem dL_isSkin_473 : decode cL_isSkin 473 = .ok (.iload 12, 2) := by decide +kernel
theorem dL_isSkin_475 : decode cL_isSkin 475 = .ok (.iload 16, 2) := by decide +kernel
theorem dL_isSkin_477 : decode cL_isSkin 477 = .ok (.invokestatic 95, 3) := by decide +kernel
theorem dL_isSkin_480 : decode cL_isSkin 480 = .ok (.iload 13, 2) := by decide +kernel
theorem dL_isSkin_482 : decode cL_isSkin 482 = .ok (.ifCond .ne 8, 3) := by decide +kernel
theorem dL_isSkin_485 : decode cL_isSkin 485 = .ok (.ldc 64, 2) := by decide +kernel
theorem dL_isSkin_487 : decode cL_isSkin 487 = .ok (.goto 27, 3) := by decide +kernel
theorem dL_isSkin_490 : decode cL_isSkin 490 = .ok (.iload 17, 2) := by decide +kernel
theorem dL_isSkin_492 : decode cL_isSkin 492 = .ok (.ifCond .ne 8, 3) := by decide +kernel
theorem dL_isSkin_495 : decode cL_isSkin 495 = .ok (.ldc 67, 2) := by decide +kernel
theorem dL_isSkin_497 : decode cL_isSkin 497 = .ok (.goto 17, 3) := by decide +kernel
theorem dL_isSkin_500 : decode cL_isSkin 500 = .ok (.iload 15, 2) := by decide +kernel
theorem dL_isSkin_502 : decode cL_isSkin 502 = .ok (.ifCond .eq 10, 3) := by decide +kernel
theorem dL_isSkin_505 : decode cL_isSkin 505 = .ok (.aload_n 3, 1) := by decide +kernel
theorem dL_isSkin_506 : decode cL_isSkin 506 = .ok (.iload 11, 2) := by decide +kernel
theorem dL_isSkin_508 : decode cL_isSkin 508 = .ok (.iaload, 1) := by decide +kernel
theorem dL_isSkin_509 : decode cL_isSkin 509 = .ok (.goto 5, 3) := by decide +kernel
theorem dL_isSkin_512 : decode cL_isSkin 512 = .ok (.ldc 70, 2) := by decide +kernel
theorem dL_isSkin_514 : decode cL_isSkin 514 = .ok (.if_icmp .ne 7, 3) := by decide +kernel
theorem dL_isSkin_517 : decode cL_isSkin 517 = .ok (.iconst 1, 1) := by decide +kernel
theorem dL_isSkin_518 : decode cL_isSkin 518 = .ok (.goto 4, 3) := by decide +kernel
theorem dL_isSkin_521 : decode cL_isSkin 521 = .ok (.iconst 0, 1) := by decide +kernel
theorem dL_isSkin_522 : decode cL_isSkin 522 = .ok (.ireturn, 1) := by decide +kernel
