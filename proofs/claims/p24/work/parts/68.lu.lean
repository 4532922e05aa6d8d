section LU
theorem dL_law_22 : decode cL_law 22 = .ok (.astore_n 2, 1) := by decide +kernel
theorem dL_law_23 : decode cL_law 23 = .ok (.aload_n 2, 1) := by decide +kernel
theorem dL_law_24 : decode cL_law 24 = .ok (.getfield 14, 3) := by decide +kernel
theorem dL_law_27 : decode cL_law 27 = .ok (.astore_n 3, 1) := by decide +kernel
theorem dL_law_28 : decode cL_law 28 = .ok (.aload_n 2, 1) := by decide +kernel
theorem dL_law_29 : decode cL_law 29 = .ok (.invokevirtual 18, 3) := by decide +kernel
theorem dL_law_32 : decode cL_law 32 = .ok (.ifCond .ne 5, 3) := by decide +kernel
theorem dL_law_37 : decode cL_law 37 = .ok (.aload_n 2, 1) := by decide +kernel
theorem dL_law_38 : decode cL_law 38 = .ok (.iconst 3, 1) := by decide +kernel
theorem dL_law_39 : decode cL_law 39 = .ok (.invokevirtual 22, 3) := by decide +kernel
theorem dL_law_42 : decode cL_law 42 = .ok (.istore 4, 2) := by decide +kernel
theorem dL_law_44 : decode cL_law 44 = .ok (.aload_n 3, 1) := by decide +kernel
theorem dL_law_45 : decode cL_law 45 = .ok (.iconst 3, 1) := by decide +kernel
theorem dL_law_46 : decode cL_law 46 = .ok (.invokevirtual 26, 3) := by decide +kernel
theorem dL_law_49 : decode cL_law 49 = .ok (.iconst 1, 1) := by decide +kernel
theorem dL_law_50 : decode cL_law 50 = .ok (.if_icmp .ne 42, 3) := by decide +kernel
theorem dL_law_92 : decode cL_law 92 = .ok (.iconst 0, 1) := by decide +kernel
theorem dL_law_53 : decode cL_law 53 = .ok (.aload_n 3, 1) := by decide +kernel
theorem dL_law_54 : decode cL_law 54 = .ok (.iconst 2, 1) := by decide +kernel
theorem dL_law_55 : decode cL_law 55 = .ok (.invokevirtual 26, 3) := by decide +kernel
theorem dL_law_58 : decode cL_law 58 = .ok (.aload_n 2, 1) := by decide +kernel
theorem dL_law_59 : decode cL_law 59 = .ok (.getfield 31, 3) := by decide +kernel
theorem dL_law_62 : decode cL_law 62 = .ok (.if_icmp .ne 30, 3) := by decide +kernel
theorem dL_law_65 : decode cL_law 65 = .ok (.aload_n 3, 1) := by decide +kernel
theorem dL_law_66 : decode cL_law 66 = .ok (.iconst 0, 1) := by decide +kernel
theorem dL_law_67 : decode cL_law 67 = .ok (.iload 4, 2) := by decide +kernel
theorem dL_law_69 : decode cL_law 69 = .ok (.invokevirtual 35, 3) := by decide +kernel
theorem dL_law_72 : decode cL_law 72 = .ok (.iconst (-1), 1) := by decide +kernel
theorem dL_law_73 : decode cL_law 73 = .ok (.if_icmp .ne 19, 3) := by decide +kernel
theorem dL_law_76 : decode cL_law 76 = .ok (.aload_n 3, 1) := by decide +kernel
theorem dL_law_77 : decode cL_law 77 = .ok (.iconst 3, 1) := by decide +kernel
theorem dL_law_78 : decode cL_law 78 = .ok (.invokevirtual 26, 3) := by decide +kernel
theorem dL_law_81 : decode cL_law 81 = .ok (.ifCond .ne 11, 3) := by decide +kernel
theorem dL_law_84 : decode cL_law 84 = .ok (.aload_n 3, 1) := by decide +kernel
theorem dL_law_85 : decode cL_law 85 = .ok (.iconst 2, 1) := by decide +kernel
theorem dL_law_86 : decode cL_law 86 = .ok (.invokevirtual 26, 3) := by decide +kernel
theorem dL_law_89 : decode cL_law 89 = .ok (.ifCond .eq 5, 3) := by decide +kernel
theorem dL_law_94 : decode cL_law 94 = .ok (.aload_n 3, 1) := by decide +kernel
theorem dL_law_95 : decode cL_law 95 = .ok (.invokevirtual 39, 3) := by decide +kernel
theorem dL_law_98 : decode cL_law 98 = .ok (.istore 5, 2) := by decide +kernel
theorem dL_law_100 : decode cL_law 100 = .ok (.bipush 10, 2) := by decide +kernel
theorem dL_law_102 : decode cL_law 102 = .ok (.newarray .int, 2) := by decide +kernel
theorem dL_law_104 : decode cL_law 104 = .ok (.astore 6, 2) := by decide +kernel
theorem dL_law_106 : decode cL_law 106 = .ok (.iconst 0, 1) := by decide +kernel
theorem dL_law_107 : decode cL_law 107 = .ok (.istore 7, 2) := by decide +kernel
theorem dL_law_109 : decode cL_law 109 = .ok (.iload 7, 2) := by decide +kernel
theorem dL_law_111 : decode cL_law 111 = .ok (.bipush 10, 2) := by decide +kernel
theorem dL_law_113 : decode cL_law 113 = .ok (.if_icmp .ge 20, 3) := by decide +kernel
theorem dL_law_116 : decode cL_law 116 = .ok (.aload 6, 2) := by decide +kernel
theorem dL_law_118 : decode cL_law 118 = .ok (.iload 7, 2) := by decide +kernel
theorem dL_law_120 : decode cL_law 120 = .ok (.aload_n 3, 1) := by decide +kernel
theorem dL_law_121 : decode cL_law 121 = .ok (.iload 7, 2) := by decide +kernel
theorem dL_law_123 : decode cL_law 123 = .ok (.invokevirtual 43, 3) := by decide +kernel
theorem dL_law_126 : decode cL_law 126 = .ok (.iastore, 1) := by decide +kernel
theorem dL_law_127 : decode cL_law 127 = .ok (.iinc 7 1, 3) := by decide +kernel
theorem dL_law_130 : decode cL_law 130 = .ok (.goto (-21), 3) := by decide +kernel
theorem dL_law_133 : decode cL_law 133 = .ok (.bipush 50, 2) := by decide +kernel
theorem dL_law_135 : decode cL_law 135 = .ok (.aload 6, 2) := by decide +kernel
theorem dL_law_137 : decode cL_law 137 = .ok (.iconst 4, 1) := by decide +kernel
theorem dL_law_138 : decode cL_law 138 = .ok (.iaload, 1) := by decide +kernel
theorem dL_law_139 : decode cL_law 139 = .ok (.invokestatic 46, 3) := by decide +kernel
theorem dL_law_142 : decode cL_law 142 = .ok (.istore 7, 2) := by decide +kernel
theorem dL_law_144 : decode cL_law 144 = .ok (.iconst 3, 1) := by decide +kernel
theorem dL_law_145 : decode cL_law 145 = .ok (.iload 7, 2) := by decide +kernel
theorem dL_law_147 : decode cL_law 147 = .ok (.imul, 1) := by decide +kernel
theorem dL_law_148 : decode cL_law 148 = .ok (.newarray .int, 2) := by decide +kernel
theorem dL_law_150 : decode cL_law 150 = .ok (.astore 8, 2) := by decide +kernel
theorem dL_law_152 : decode cL_law 152 = .ok (.iconst 0, 1) := by decide +kernel
theorem dL_law_153 : decode cL_law 153 = .ok (.istore 9, 2) := by decide +kernel
theorem dL_law_155 : decode cL_law 155 = .ok (.iload 9, 2) := by decide +kernel
theorem dL_law_157 : decode cL_law 157 = .ok (.aload 8, 2) := by decide +kernel
theorem dL_law_159 : decode cL_law 159 = .ok (.arraylength, 1) := by decide +kernel
theorem dL_law_160 : decode cL_law 160 = .ok (.if_icmp .ge 26, 3) := by decide +kernel
theorem dL_law_163 : decode cL_law 163 = .ok (.aload 8, 2) := by decide +kernel
theorem dL_law_165 : decode cL_law 165 = .ok (.iload 9, 2) := by decide +kernel
theorem dL_law_167 : decode cL_law 167 = .ok (.aload_n 3, 1) := by decide +kernel
theorem dL_law_168 : decode cL_law 168 = .ok (.iload 9, 2) := by decide +kernel
theorem dL_law_170 : decode cL_law 170 = .ok (.iconst 3, 1) := by decide +kernel
theorem dL_law_171 : decode cL_law 171 = .ok (.idiv, 1) := by decide +kernel
theorem dL_law_172 : decode cL_law 172 = .ok (.iload 9, 2) := by decide +kernel
theorem dL_law_174 : decode cL_law 174 = .ok (.iconst 3, 1) := by decide +kernel
theorem dL_law_175 : decode cL_law 175 = .ok (.irem, 1) := by decide +kernel
theorem dL_law_176 : decode cL_law 176 = .ok (.invokevirtual 51, 3) := by decide +kernel
theorem dL_law_179 : decode cL_law 179 = .ok (.iastore, 1) := by decide +kernel
theorem dL_law_180 : decode cL_law 180 = .ok (.iinc 9 1, 3) := by decide +kernel
theorem dL_law_183 : decode cL_law 183 = .ok (.goto (-28), 3) := by decide +kernel
theorem dL_law_186 : decode cL_law 186 = .ok (.aload_n 3, 1) := by decide +kernel
theorem dL_law_187 : decode cL_law 187 = .ok (.invokevirtual 54, 3) := by decide +kernel
theorem dL_law_190 : decode cL_law 190 = .ok (.lstore 9, 2) := by decide +kernel
theorem dL_law_192 : decode cL_law 192 = .ok (.iconst 0, 1) := by decide +kernel
theorem dL_law_193 : decode cL_law 193 = .ok (.istore 11, 2) := by decide +kernel
theorem dL_law_195 : decode cL_law 195 = .ok (.iload 11, 2) := by decide +kernel
theorem dL_law_197 : decode cL_law 197 = .ok (.iconst 4, 1) := by decide +kernel
theorem dL_law_198 : decode cL_law 198 = .ok (.if_icmp .ge 273, 3) := by decide +kernel
theorem dL_law_201 : decode cL_law 201 = .ok (.iconst 1, 1) := by decide +kernel
theorem dL_law_202 : decode cL_law 202 = .ok (.aload_n 2, 1) := by decide +kernel
theorem dL_law_203 : decode cL_law 203 = .ok (.sipush 3000, 3) := by decide +kernel
theorem dL_law_206 : decode cL_law 206 = .ok (.invokevirtual 58, 3) := by decide +kernel
theorem dL_law_209 : decode cL_law 209 = .ok (.iadd, 1) := by decide +kernel
theorem dL_law_210 : decode cL_law 210 = .ok (.istore 12, 2) := by decide +kernel
theorem dL_law_369 : decode cL_law 369 = .ok (.aload_n 3, 1) := by decide +kernel
theorem dL_law_370 : decode cL_law 370 = .ok (.bipush 10, 2) := by decide +kernel
theorem dL_law_372 : decode cL_law 372 = .ok (.invokevirtual 26, 3) := by decide +kernel
theorem dL_law_375 : decode cL_law 375 = .ok (.istore 13, 2) := by decide +kernel
theorem dL_law_377 : decode cL_law 377 = .ok (.iconst 0, 1) := by decide +kernel
theorem dL_law_378 : decode cL_law 378 = .ok (.istore 14, 2) := by decide +kernel
theorem dL_law_380 : decode cL_law 380 = .ok (.iconst 0, 1) := by decide +kernel
theorem dL_law_381 : decode cL_law 381 = .ok (.istore 15, 2) := by decide +kernel
theorem dL_law_383 : decode cL_law 383 = .ok (.iload 15, 2) := by decide +kernel
theorem dL_law_385 : decode cL_law 385 = .ok (.iload 13, 2) := by decide +kernel
theorem dL_law_387 : decode cL_law 387 = .ok (.if_icmp .ge 22, 3) := by decide +kernel
theorem dL_law_390 : decode cL_law 390 = .ok (.iload 14, 2) := by decide +kernel
theorem dL_law_392 : decode cL_law 392 = .ok (.aload_n 3, 1) := by decide +kernel
theorem dL_law_393 : decode cL_law 393 = .ok (.iconst 0, 1) := by decide +kernel
theorem dL_law_394 : decode cL_law 394 = .ok (.iload 15, 2) := by decide +kernel
theorem dL_law_396 : decode cL_law 396 = .ok (.iconst 3, 1) := by decide +kernel
theorem dL_law_397 : decode cL_law 397 = .ok (.invokevirtual 65, 3) := by decide +kernel
theorem dL_law_400 : decode cL_law 400 = .ok (.iadd, 1) := by decide +kernel
theorem dL_law_401 : decode cL_law 401 = .ok (.istore 14, 2) := by decide +kernel
theorem dL_law_403 : decode cL_law 403 = .ok (.iinc 15 1, 3) := by decide +kernel
theorem dL_law_406 : decode cL_law 406 = .ok (.goto (-23), 3) := by decide +kernel
theorem dL_law_409 : decode cL_law 409 = .ok (.iload 14, 2) := by decide +kernel
theorem dL_law_411 : decode cL_law 411 = .ok (.aload_n 2, 1) := by decide +kernel
theorem dL_law_412 : decode cL_law 412 = .ok (.getfield 31, 3) := by decide +kernel
theorem dL_law_415 : decode cL_law 415 = .ok (.if_icmp .ne 48, 3) := by decide +kernel
theorem dL_law_463 : decode cL_law 463 = .ok (.iconst 0, 1) := by decide +kernel
theorem dL_law_418 : decode cL_law 418 = .ok (.aload_n 3, 1) := by decide +kernel
theorem dL_law_419 : decode cL_law 419 = .ok (.iconst 0, 1) := by decide +kernel
theorem dL_law_420 : decode cL_law 420 = .ok (.bipush 7, 2) := by decide +kernel
theorem dL_law_422 : decode cL_law 422 = .ok (.invokevirtual 68, 3) := by decide +kernel
theorem dL_law_425 : decode cL_law 425 = .ok (.iload 13, 2) := by decide +kernel
theorem dL_law_427 : decode cL_law 427 = .ok (.if_icmp .ne 36, 3) := by decide +kernel
theorem dL_law_430 : decode cL_law 430 = .ok (.aload_n 3, 1) := by decide +kernel
theorem dL_law_431 : decode cL_law 431 = .ok (.aload_n 3, 1) := by decide +kernel
theorem dL_law_432 : decode cL_law 432 = .ok (.bipush 7, 2) := by decide +kernel
theorem dL_law_434 : decode cL_law 434 = .ok (.invokevirtual 26, 3) := by decide +kernel
theorem dL_law_437 : decode cL_law 437 = .ok (.iconst 0, 1) := by decide +kernel
theorem dL_law_438 : decode cL_law 438 = .ok (.invokevirtual 71, 3) := by decide +kernel
theorem dL_law_441 : decode cL_law 441 = .ok (.iload 13, 2) := by decide +kernel
theorem dL_law_443 : decode cL_law 443 = .ok (.if_icmp .ne 20, 3) := by decide +kernel
theorem dL_law_446 : decode cL_law 446 = .ok (.aload_n 3, 1) := by decide +kernel
theorem dL_law_447 : decode cL_law 447 = .ok (.bipush 6, 2) := by decide +kernel
theorem dL_law_449 : decode cL_law 449 = .ok (.iconst 0, 1) := by decide +kernel
theorem dL_law_450 : decode cL_law 450 = .ok (.invokevirtual 71, 3) := by decide +kernel
theorem dL_law_453 : decode cL_law 453 = .ok (.aload_n 3, 1) := by decide +kernel
theorem dL_law_454 : decode cL_law 454 = .ok (.bipush 7, 2) := by decide +kernel
theorem dL_law_456 : decode cL_law 456 = .ok (.iconst 0, 1) := by decide +kernel
theorem dL_law_457 : decode cL_law 457 = .ok (.invokevirtual 71, 3) := by decide +kernel
theorem dL_law_460 : decode cL_law 460 = .ok (.if_icmp .ge 5, 3) := by decide +kernel
theorem dL_law_465 : decode cL_law 465 = .ok (.iinc 11 1, 3) := by decide +kernel
theorem dL_law_468 : decode cL_law 468 = .ok (.goto (-273), 3) := by decide +kernel
theorem dL_law_212 : decode cL_law 212 = .ok (.iload 12, 2) := by decide +kernel
theorem dL_law_214 : decode cL_law 214 = .ok (.aload 6, 2) := by decide +kernel
theorem dL_law_216 : decode cL_law 216 = .ok (.iconst 3, 1) := by decide +kernel
theorem dL_law_217 : decode cL_law 217 = .ok (.iaload, 1) := by decide +kernel
theorem dL_law_218 : decode cL_law 218 = .ok (.if_icmp .le 48, 3) := by decide +kernel
theorem dL_law_266 : decode cL_law 266 = .ok (.iload 12, 2) := by decide +kernel
theorem dL_law_268 : decode cL_law 268 = .ok (.aload 6, 2) := by decide +kernel
theorem dL_law_270 : decode cL_law 270 = .ok (.iconst 3, 1) := by decide +kernel
theorem dL_law_271 : decode cL_law 271 = .ok (.iaload, 1) := by decide +kernel
theorem dL_law_272 : decode cL_law 272 = .ok (.if_icmp .ge 97, 3) := by decide +kernel
theorem dL_law_275 : decode cL_law 275 = .ok (.aload_n 3, 1) := by decide +kernel
theorem dL_law_276 : decode cL_law 276 = .ok (.iload 12, 2) := by decide +kernel
theorem dL_law_278 : decode cL_law 278 = .ok (.iconst 1, 1) := by decide +kernel
theorem dL_law_279 : decode cL_law 279 = .ok (.iconst 4, 1) := by decide +kernel
theorem dL_law_280 : decode cL_law 280 = .ok (.invokevirtual 61, 3) := by decide +kernel
theorem dL_law_283 : decode cL_law 283 = .ok (.istore 13, 2) := by decide +kernel
theorem dL_law_285 : decode cL_law 285 = .ok (.aload_n 3, 1) := by decide +kernel
theorem dL_law_286 : decode cL_law 286 = .ok (.iload 12, 2) := by decide +kernel
theorem dL_law_288 : decode cL_law 288 = .ok (.iconst 1, 1) := by decide +kernel
theorem dL_law_289 : decode cL_law 289 = .ok (.iconst 0, 1) := by decide +kernel
theorem dL_law_290 : decode cL_law 290 = .ok (.invokevirtual 61, 3) := by decide +kernel
theorem dL_law_293 : decode cL_law 293 = .ok (.bipush 6, 2) := by decide +kernel
theorem dL_law_295 : decode cL_law 295 = .ok (.if_icmp .ne 72, 3) := by decide +kernel
theorem dL_law_367 : decode cL_law 367 = .ok (.iconst 0, 1) := by decide +kernel
theorem dL_law_298 : decode cL_law 298 = .ok (.aload_n 3, 1) := by decide +kernel
theorem dL_law_299 : decode cL_law 299 = .ok (.iload 12, 2) := by decide +kernel
theorem dL_law_301 : decode cL_law 301 = .ok (.iconst 1, 1) := by decide +kernel
theorem dL_law_302 : decode cL_law 302 = .ok (.iconst 3, 1) := by decide +kernel
theorem dL_law_303 : decode cL_law 303 = .ok (.invokevirtual 61, 3) := by decide +kernel
theorem dL_law_306 : decode cL_law 306 = .ok (.iload 12, 2) := by decide +kernel
theorem dL_law_308 : decode cL_law 308 = .ok (.if_icmp .ne 59, 3) := by decide +kernel
theorem dL_law_311 : decode cL_law 311 = .ok (.iload 13, 2) := by decide +kernel
theorem dL_law_313 : decode cL_law 313 = .ok (.aload 6, 2) := by decide +kernel
theorem dL_law_315 : decode cL_law 315 = .ok (.iconst 4, 1) := by decide +kernel
theorem dL_law_316 : decode cL_law 316 = .ok (.iaload, 1) := by decide +kernel
theorem dL_law_317 : decode cL_law 317 = .ok (.if_icmp .gt 50, 3) := by decide +kernel
theorem dL_law_320 : decode cL_law 320 = .ok (.iload 13, 2) := by decide +kernel
theorem dL_law_322 : decode cL_law 322 = .ok (.ifCond .le 24, 3) := by decide +kernel
theorem dL_law_346 : decode cL_law 346 = .ok (.iload 13, 2) := by decide +kernel
theorem dL_law_348 : decode cL_law 348 = .ok (.iload 7, 2) := by decide +kernel
theorem dL_law_350 : decode cL_law 350 = .ok (.if_icmp .ge 19, 3) := by decide +kernel
theorem dL_law_353 : decode cL_law 353 = .ok (.aload 8, 2) := by decide +kernel
theorem dL_law_355 : decode cL_law 355 = .ok (.iconst 3, 1) := by decide +kernel
theorem dL_law_356 : decode cL_law 356 = .ok (.iload 13, 2) := by decide +kernel
theorem dL_law_358 : decode cL_law 358 = .ok (.imul, 1) := by decide +kernel
theorem dL_law_359 : decode cL_law 359 = .ok (.iconst 1, 1) := by decide +kernel
theorem dL_law_360 : decode cL_law 360 = .ok (.iadd, 1) := by decide +kernel
theorem dL_law_361 : decode cL_law 361 = .ok (.iaload, 1) := by decide +kernel
theorem dL_law_362 : decode cL_law 362 = .ok (.iload 12, 2) := by decide +kernel
theorem dL_law_364 : decode cL_law 364 = .ok (.if_icmp .gt 5, 3) := by decide +kernel
theorem dL_law_325 : decode cL_law 325 = .ok (.iload 13, 2) := by decide +kernel
theorem dL_law_327 : decode cL_law 327 = .ok (.iload 7, 2) := by decide +kernel
theorem dL_law_329 : decode cL_law 329 = .ok (.if_icmp .gt 17, 3) := by decide +kernel
theorem dL_law_332 : decode cL_law 332 = .ok (.aload 8, 2) := by decide +kernel
theorem dL_law_334 : decode cL_law 334 = .ok (.iconst 3, 1) := by decide +kernel
theorem dL_law_335 : decode cL_law 335 = .ok (.iload 13, 2) := by decide +kernel
theorem dL_law_337 : decode cL_law 337 = .ok (.imul, 1) := by decide +kernel
theorem dL_law_338 : decode cL_law 338 = .ok (.iconst 2, 1) := by decide +kernel
theorem dL_law_339 : decode cL_law 339 = .ok (.isub, 1) := by decide +kernel
theorem dL_law_340 : decode cL_law 340 = .ok (.iaload, 1) := by decide +kernel
theorem dL_law_341 : decode cL_law 341 = .ok (.iload 12, 2) := by decide +kernel
theorem dL_law_343 : decode cL_law 343 = .ok (.if_icmp .gt 24, 3) := by decide +kernel
theorem dL_law_221 : decode cL_law 221 = .ok (.iconst 0, 1) := by decide +kernel
theorem dL_law_222 : decode cL_law 222 = .ok (.istore 13, 2) := by decide +kernel
theorem dL_law_224 : decode cL_law 224 = .ok (.iload 13, 2) := by decide +kernel
theorem dL_law_226 : decode cL_law 226 = .ok (.bipush 10, 2) := by decide +kernel
theorem dL_law_228 : decode cL_law 228 = .ok (.if_icmp .ge 35, 3) := by decide +kernel
theorem dL_law_231 : decode cL_law 231 = .ok (.aload_n 3, 1) := by decide +kernel
theorem dL_law_232 : decode cL_law 232 = .ok (.iload 12, 2) := by decide +kernel
theorem dL_law_234 : decode cL_law 234 = .ok (.iconst 1, 1) := by decide +kernel
theorem dL_law_235 : decode cL_law 235 = .ok (.iload 13, 2) := by decide +kernel
theorem dL_law_237 : decode cL_law 237 = .ok (.invokevirtual 61, 3) := by decide +kernel
theorem dL_law_240 : decode cL_law 240 = .ok (.aload 6, 2) := by decide +kernel
theorem dL_law_242 : decode cL_law 242 = .ok (.iload 13, 2) := by decide +kernel
theorem dL_law_244 : decode cL_law 244 = .ok (.iaload, 1) := by decide +kernel
theorem dL_law_245 : decode cL_law 245 = .ok (.if_icmp .eq 12, 3) := by decide +kernel
theorem dL_law_257 : decode cL_law 257 = .ok (.iinc 13 1, 3) := by decide +kernel
theorem dL_law_260 : decode cL_law 260 = .ok (.goto (-36), 3) := by decide +kernel
theorem dL_law_248 : decode cL_law 248 = .ok (.iload 5, 2) := by decide +kernel
theorem dL_law_250 : decode cL_law 250 = .ok (.bipush 6, 2) := by decide +kernel
theorem dL_law_252 : decode cL_law 252 = .ok (.if_icmp .eq 5, 3) := by decide +kernel
theorem dL_law_255 : decode cL_law 255 = .ok (.iconst 0, 1) := by decide +kernel
theorem dL_law_263 : decode cL_law 263 = .ok (.goto 106, 3) := by decide +kernel
theorem dL_law_471 : decode cL_law 471 = .ok (.aload_n 3, 1) := by decide +kernel
theorem dL_law_472 : decode cL_law 472 = .ok (.invokevirtual 54, 3) := by decide +kernel
theorem dL_law_475 : decode cL_law 475 = .ok (.lload 9, 2) := by decide +kernel
theorem dL_law_477 : decode cL_law 477 = .ok (.lcmp, 1) := by decide +kernel
theorem dL_law_478 : decode cL_law 478 = .ok (.ifCond .ne 12, 3) := by decide +kernel
theorem dL_law_481 : decode cL_law 481 = .ok (.aload_n 3, 1) := by decide +kernel
theorem dL_law_482 : decode cL_law 482 = .ok (.invokevirtual 39, 3) := by decide +kernel
theorem dL_law_485 : decode cL_law 485 = .ok (.iload 5, 2) := by decide +kernel
theorem dL_law_487 : decode cL_law 487 = .ok (.if_icmp .eq 5, 3) := by decide +kernel
theorem dL_law_492 : decode cL_law 492 = .ok (.iconst 0, 1) := by decide +kernel
theorem dL_law_493 : decode cL_law 493 = .ok (.istore 11, 2) := by decide +kernel
theorem dL_law_495 : decode cL_law 495 = .ok (.iload 11, 2) := by decide +kernel
theorem dL_law_497 : decode cL_law 497 = .ok (.bipush 10, 2) := by decide +kernel
theorem dL_law_499 : decode cL_law 499 = .ok (.if_icmp .ge 25, 3) := by decide +kernel
theorem dL_law_502 : decode cL_law 502 = .ok (.aload_n 3, 1) := by decide +kernel
theorem dL_law_503 : decode cL_law 503 = .ok (.iload 11, 2) := by decide +kernel
theorem dL_law_505 : decode cL_law 505 = .ok (.invokevirtual 43, 3) := by decide +kernel
theorem dL_law_508 : decode cL_law 508 = .ok (.aload 6, 2) := by decide +kernel
theorem dL_law_510 : decode cL_law 510 = .ok (.iload 11, 2) := by decide +kernel
theorem dL_law_512 : decode cL_law 512 = .ok (.iaload, 1) := by decide +kernel
theorem dL_law_513 : decode cL_law 513 = .ok (.if_icmp .eq 5, 3) := by decide +kernel
theorem dL_law_518 : decode cL_law 518 = .ok (.iinc 11 1, 3) := by decide +kernel
theorem dL_law_521 : decode cL_law 521 = .ok (.goto (-26), 3) := by decide +kernel
theorem dL_law_516 : decode cL_law 516 = .ok (.iconst 0, 1) := by decide +kernel
theorem dL_law_524 : decode cL_law 524 = .ok (.iconst 0, 1) := by decide +kernel
theorem dL_law_525 : decode cL_law 525 = .ok (.istore 11, 2) := by decide +kernel
theorem dL_law_527 : decode cL_law 527 = .ok (.iload 11, 2) := by decide +kernel
theorem dL_law_529 : decode cL_law 529 = .ok (.aload 8, 2) := by decide +kernel
theorem dL_law_531 : decode cL_law 531 = .ok (.arraylength, 1) := by decide +kernel
theorem dL_law_532 : decode cL_law 532 = .ok (.if_icmp .ge 31, 3) := by decide +kernel
theorem dL_law_535 : decode cL_law 535 = .ok (.aload_n 3, 1) := by decide +kernel
theorem dL_law_536 : decode cL_law 536 = .ok (.iload 11, 2) := by decide +kernel
theorem dL_law_538 : decode cL_law 538 = .ok (.iconst 3, 1) := by decide +kernel
theorem dL_law_539 : decode cL_law 539 = .ok (.idiv, 1) := by decide +kernel
theorem dL_law_540 : decode cL_law 540 = .ok (.iload 11, 2) := by decide +kernel
theorem dL_law_542 : decode cL_law 542 = .ok (.iconst 3, 1) := by decide +kernel
theorem dL_law_543 : decode cL_law 543 = .ok (.irem, 1) := by decide +kernel
theorem dL_law_544 : decode cL_law 544 = .ok (.invokevirtual 51, 3) := by decide +kernel
theorem dL_law_547 : decode cL_law 547 = .ok (.aload 8, 2) := by decide +kernel
theorem dL_law_549 : decode cL_law 549 = .ok (.iload 11, 2) := by decide +kernel
theorem dL_law_551 : decode cL_law 551 = .ok (.iaload, 1) := by decide +kernel
theorem dL_law_552 : decode cL_law 552 = .ok (.if_icmp .eq 5, 3) := by decide +kernel
theorem dL_law_557 : decode cL_law 557 = .ok (.iinc 11 1, 3) := by decide +kernel
theorem dL_law_560 : decode cL_law 560 = .ok (.goto (-33), 3) := by decide +kernel
theorem dL_law_555 : decode cL_law 555 = .ok (.iconst 0, 1) := by decide +kernel
theorem dL_law_563 : decode cL_law 563 = .ok (.aload_n 3, 1) := by decide +kernel
theorem dL_law_564 : decode cL_law 564 = .ok (.iconst 5, 1) := by decide +kernel
theorem dL_law_565 : decode cL_law 565 = .ok (.invokevirtual 26, 3) := by decide +kernel
theorem dL_law_568 : decode cL_law 568 = .ok (.istore 11, 2) := by decide +kernel
theorem dL_law_570 : decode cL_law 570 = .ok (.iconst 0, 1) := by decide +kernel
theorem dL_law_571 : decode cL_law 571 = .ok (.istore 12, 2) := by decide +kernel
theorem dL_law_573 : decode cL_law 573 = .ok (.iconst 0, 1) := by decide +kernel
theorem dL_law_574 : decode cL_law 574 = .ok (.istore 13, 2) := by decide +kernel
theorem dL_law_576 : decode cL_law 576 = .ok (.iload 13, 2) := by decide +kernel
theorem dL_law_578 : decode cL_law 578 = .ok (.aload_n 2, 1) := by decide +kernel
theorem dL_law_579 : decode cL_law 579 = .ok (.getfield 31, 3) := by decide +kernel
theorem dL_law_582 : decode cL_law 582 = .ok (.if_icmp .ge 33, 3) := by decide +kernel
theorem dL_law_585 : decode cL_law 585 = .ok (.aload_n 3, 1) := by decide +kernel
theorem dL_law_586 : decode cL_law 586 = .ok (.iload 13, 2) := by decide +kernel
theorem dL_law_588 : decode cL_law 588 = .ok (.iconst 4, 1) := by decide +kernel
theorem dL_law_589 : decode cL_law 589 = .ok (.invokevirtual 74, 3) := by decide +kernel
theorem dL_law_592 : decode cL_law 592 = .ok (.ifCond .eq 5, 3) := by decide +kernel
theorem dL_law_597 : decode cL_law 597 = .ok (.iload 12, 2) := by decide +kernel
theorem dL_law_599 : decode cL_law 599 = .ok (.aload_n 3, 1) := by decide +kernel
theorem dL_law_600 : decode cL_law 600 = .ok (.iload 13, 2) := by decide +kernel
theorem dL_law_602 : decode cL_law 602 = .ok (.iconst 5, 1) := by decide +kernel
theorem dL_law_603 : decode cL_law 603 = .ok (.invokevirtual 74, 3) := by decide +kernel
theorem dL_law_606 : decode cL_law 606 = .ok (.iadd, 1) := by decide +kernel
theorem dL_law_607 : decode cL_law 607 = .ok (.istore 12, 2) := by decide +kernel
theorem dL_law_609 : decode cL_law 609 = .ok (.iinc 13 1, 3) := by decide +kernel
theorem dL_law_612 : decode cL_law 612 = .ok (.goto (-36), 3) := by decide +kernel
theorem dL_law_595 : decode cL_law 595 = .ok (.iconst 0, 1) := by decide +kernel
theorem dL_law_615 : decode cL_law 615 = .ok (.aload_n 2, 1) := by decide +kernel
theorem dL_law_616 : decode cL_law 616 = .ok (.bipush 17, 2) := by decide +kernel
theorem dL_law_618 : decode cL_law 618 = .ok (.bipush 9, 2) := by decide +kernel
theorem dL_law_620 : decode cL_law 620 = .ok (.iconst 0, 1) := by decide +kernel
theorem dL_law_621 : decode cL_law 621 = .ok (.iconst 0, 1) := by decide +kernel
theorem dL_law_622 : decode cL_law 622 = .ok (.invokevirtual 77, 3) := by decide +kernel
theorem dL_law_625 : decode cL_law 625 = .ok (.istore 13, 2) := by decide +kernel
theorem dL_law_627 : decode cL_law 627 = .ok (.iload 12, 2) := by decide +kernel
theorem dL_law_629 : decode cL_law 629 = .ok (.iload 11, 2) := by decide +kernel
theorem dL_law_631 : decode cL_law 631 = .ok (.if_icmp .ne 86, 3) := by decide +kernel
theorem dL_law_717 : decode cL_law 717 = .ok (.iconst 0, 1) := by decide +kernel
theorem dL_law_634 : decode cL_law 634 = .ok (.iload 13, 2) := by decide +kernel
theorem dL_law_636 : decode cL_law 636 = .ok (.sipush 1000, 3) := by decide +kernel
theorem dL_law_639 : decode cL_law 639 = .ok (.if_icmp .eq 78, 3) := by decide +kernel
theorem dL_law_642 : decode cL_law 642 = .ok (.aload_n 3, 1) := by decide +kernel
theorem dL_law_643 : decode cL_law 643 = .ok (.iconst 0, 1) := by decide +kernel
theorem dL_law_644 : decode cL_law 644 = .ok (.iload 13, 2) := by decide +kernel
theorem dL_law_646 : decode cL_law 646 = .ok (.invokevirtual 35, 3) := by decide +kernel
theorem dL_law_649 : decode cL_law 649 = .ok (.iload 4, 2) := by decide +kernel
theorem dL_law_651 : decode cL_law 651 = .ok (.if_icmp .ne 66, 3) := by decide +kernel
theorem dL_law_654 : decode cL_law 654 = .ok (.aload_n 3, 1) := by decide +kernel
theorem dL_law_655 : decode cL_law 655 = .ok (.iconst 2, 1) := by decide +kernel
theorem dL_law_656 : decode cL_law 656 = .ok (.invokevirtual 26, 3) := by decide +kernel
theorem dL_law_659 : decode cL_law 659 = .ok (.aload_n 2, 1) := by decide +kernel
theorem dL_law_660 : decode cL_law 660 = .ok (.getfield 31, 3) := by decide +kernel
theorem dL_law_663 : decode cL_law 663 = .ok (.iconst 1, 1) := by decide +kernel
theorem dL_law_664 : decode cL_law 664 = .ok (.isub, 1) := by decide +kernel
theorem dL_law_665 : decode cL_law 665 = .ok (.if_icmp .ne 52, 3) := by decide +kernel
theorem dL_law_668 : decode cL_law 668 = .ok (.aload_n 3, 1) := by decide +kernel
theorem dL_law_669 : decode cL_law 669 = .ok (.iconst 5, 1) := by decide +kernel
theorem dL_law_670 : decode cL_law 670 = .ok (.invokevirtual 26, 3) := by decide +kernel
theorem dL_law_673 : decode cL_law 673 = .ok (.ifCond .ne 44, 3) := by decide +kernel
theorem dL_law_676 : decode cL_law 676 = .ok (.aload_n 3, 1) := by decide +kernel
theorem dL_law_677 : decode cL_law 677 = .ok (.iconst 3, 1) := by decide +kernel
theorem dL_law_678 : decode cL_law 678 = .ok (.invokevirtual 26, 3) := by decide +kernel
theorem dL_law_681 : decode cL_law 681 = .ok (.iconst 1, 1) := by decide +kernel
theorem dL_law_682 : decode cL_law 682 = .ok (.if_icmp .ne 35, 3) := by decide +kernel
theorem dL_law_685 : decode cL_law 685 = .ok (.aload_n 3, 1) := by decide +kernel
theorem dL_law_686 : decode cL_law 686 = .ok (.iconst 0, 1) := by decide +kernel
theorem dL_law_687 : decode cL_law 687 = .ok (.iconst 0, 1) := by decide +kernel
theorem dL_law_688 : decode cL_law 688 = .ok (.invokevirtual 81, 3) := by decide +kernel
theorem dL_law_691 : decode cL_law 691 = .ok (.bipush 6, 2) := by decide +kernel
theorem dL_law_693 : decode cL_law 693 = .ok (.if_icmp .ne 24, 3) := by decide +kernel
theorem dL_law_696 : decode cL_law 696 = .ok (.aload_n 3, 1) := by decide +kernel
theorem dL_law_697 : decode cL_law 697 = .ok (.bipush 10, 2) := by decide +kernel
theorem dL_law_699 : decode cL_law 699 = .ok (.invokevirtual 26, 3) := by decide +kernel
theorem dL_law_702 : decode cL_law 702 = .ok (.ifCond .ne 15, 3) := by decide +kernel
theorem dL_law_705 : decode cL_law 705 = .ok (.aload_n 3, 1) := by decide +kernel
theorem dL_law_706 : decode cL_law 706 = .ok (.iconst 3, 1) := by decide +kernel
theorem dL_law_707 : decode cL_law 707 = .ok (.invokevirtual 43, 3) := by decide +kernel
theorem dL_law_710 : decode cL_law 710 = .ok (.aload 6, 2) := by decide +kernel
theorem dL_law_712 : decode cL_law 712 = .ok (.iconst 3, 1) := by decide +kernel
theorem dL_law_713 : decode cL_law 713 = .ok (.iaload, 1) := by decide +kernel
theorem dL_law_714 : decode cL_law 714 = .ok (.if_icmp .eq 5, 3) := by decide +kernel
theorem dL_law_719 : decode cL_law 719 = .ok (.iconst 0, 1) := by decide +kernel
theorem dL_law_720 : decode cL_law 720 = .ok (.istore 14, 2) := by decide +kernel
theorem dL_law_722 : decode cL_law 722 = .ok (.iload 14, 2) := by decide +kernel
theorem dL_law_724 : decode cL_law 724 = .ok (.iload 13, 2) := by decide +kernel
theorem dL_law_726 : decode cL_law 726 = .ok (.if_icmp .ge 34, 3) := by decide +kernel
theorem dL_law_729 : decode cL_law 729 = .ok (.aload_n 3, 1) := by decide +kernel
theorem dL_law_730 : decode cL_law 730 = .ok (.iload 14, 2) := by decide +kernel
theorem dL_law_732 : decode cL_law 732 = .ok (.iconst 4, 1) := by decide +kernel
theorem dL_law_733 : decode cL_law 733 = .ok (.invokevirtual 74, 3) := by decide +kernel
theorem dL_law_736 : decode cL_law 736 = .ok (.iconst (-1), 1) := by decide +kernel
theorem dL_law_737 : decode cL_law 737 = .ok (.if_icmp .ne 15, 3) := by decide +kernel
theorem dL_law_752 : decode cL_law 752 = .ok (.iconst 0, 1) := by decide +kernel
theorem dL_law_740 : decode cL_law 740 = .ok (.aload_n 3, 1) := by decide +kernel
theorem dL_law_741 : decode cL_law 741 = .ok (.iload 14, 2) := by decide +kernel
theorem dL_law_743 : decode cL_law 743 = .ok (.bipush 7, 2) := by decide +kernel
theorem dL_law_745 : decode cL_law 745 = .ok (.invokevirtual 74, 3) := by decide +kernel
theorem dL_law_748 : decode cL_law 748 = .ok (.iconst (-1), 1) := by decide +kernel
theorem dL_law_749 : decode cL_law 749 = .ok (.if_icmp .eq 5, 3) := by decide +kernel
theorem dL_law_754 : decode cL_law 754 = .ok (.iinc 14 1, 3) := by decide +kernel
theorem dL_law_757 : decode cL_law 757 = .ok (.goto (-35), 3) := by decide +kernel
theorem dL_law_760 : decode cL_law 760 = .ok (.aload_n 3, 1) := by decide +kernel
theorem dL_law_761 : decode cL_law 761 = .ok (.iconst 0, 1) := by decide +kernel
theorem dL_law_762 : decode cL_law 762 = .ok (.iload 4, 2) := by decide +kernel
theorem dL_law_764 : decode cL_law 764 = .ok (.invokevirtual 35, 3) := by decide +kernel
theorem dL_law_767 : decode cL_law 767 = .ok (.iload 13, 2) := by decide +kernel
theorem dL_law_769 : decode cL_law 769 = .ok (.if_icmp .ne 32, 3) := by decide +kernel
theorem dL_law_801 : decode cL_law 801 = .ok (.iconst 0, 1) := by decide +kernel
theorem dL_law_772 : decode cL_law 772 = .ok (.aload_n 3, 1) := by decide +kernel
theorem dL_law_773 : decode cL_law 773 = .ok (.iconst 5, 1) := by decide +kernel
theorem dL_law_774 : decode cL_law 774 = .ok (.invokevirtual 26, 3) := by decide +kernel
theorem dL_law_777 : decode cL_law 777 = .ok (.iload 11, 2) := by decide +kernel
theorem dL_law_779 : decode cL_law 779 = .ok (.if_icmp .ne 22, 3) := by decide +kernel
theorem dL_law_782 : decode cL_law 782 = .ok (.aload_n 3, 1) := by decide +kernel
theorem dL_law_783 : decode cL_law 783 = .ok (.invokevirtual 39, 3) := by decide +kernel
theorem dL_law_786 : decode cL_law 786 = .ok (.iload 5, 2) := by decide +kernel
theorem dL_law_788 : decode cL_law 788 = .ok (.if_icmp .ne 13, 3) := by decide +kernel
theorem dL_law_791 : decode cL_law 791 = .ok (.aload_n 3, 1) := by decide +kernel
theorem dL_law_792 : decode cL_law 792 = .ok (.bipush 10, 2) := by decide +kernel
theorem dL_law_794 : decode cL_law 794 = .ok (.invokevirtual 43, 3) := by decide +kernel
theorem dL_law_797 : decode cL_law 797 = .ok (.iconst 3, 1) := by decide +kernel
theorem dL_law_798 : decode cL_law 798 = .ok (.if_icmp .eq 5, 3) := by decide +kernel
theorem dL_law_490 : decode cL_law 490 = .ok (.iconst 0, 1) := by decide +kernel
theorem dL_law_35 : decode cL_law 35 = .ok (.iconst 0, 1) := by decide +kernel
set_option maxHeartbeats 40000000 in
set_option maxRecDepth 100000 in
theorem law_body (l : Launch) (D : va_G) (cI cZ cJ : ClassId) {p : Program} {e : Env} {R : Room} {s : State} {m : MethodId} {args : Array Value} {below : List Frame} {meth : Method} {c : Code} {A : Nat → Prop} {Q : State → Prop} (S : CallFix p m c cL_law 16 s args uG RL) (hK : va_K D vwCl (tyL cI cZ cJ) s) (ra : Nat → Nat) (ga : SG) (hA : ∀ q, s.heap.size ≤ q → A q) (hB : amb ra ga A s s.heap) (b : Nat) (tm : Int32) (o : Nat) (u : Nat → Nat) (ca sl : Nat) (hRf : 14 ≤ R.frames) (hRl : 339 ≤ R.locals) (hca : ca + 149 ≤ R.cells) (hsl : sl + 748 ≤ R.slots) (next : ∀ (H : Heap) (locs : List Loc) (ls : Array Slot), lv_has ls 16 [(1, .int tm), (0, .ref b)] → va_S A s.heap H locs → W p l e R s m args below meth c H locs (ca + 149) (sl + 748) Q (F0 m 803 ls [])) (σ : FS) (hok : wp_law ga σ) (H : Heap) (locs : List Loc) (ls : Array Slot) (hl : lv_has ls 16 [(1, .int tm), (0, .ref b)]) (hP : va_P D vwCl (mW o u cI cZ cJ 75 ga σ) H) (hD : va_D A (mW o u cI cZ cJ 75 ga σ)) (hS : va_S A s.heap H locs) : W p l e R s m args below meth c H locs ca sl Q (F0 m 22 ls [.ref (u 87)]) := by
  have hx := S.1
  have hb := S.2.1
  refine W.widen (k := ca + 0) (n := sl + 0) (by omega) (by omega) ?_
  refine lv_astore_n (lv' := [(2, .ref (u 87)), (1, .int tm), (0, .ref b)]) hx hb dL_law_22 rfl hl (by decide) rfl (fun ls hl => ?_)
  refine lv_aload_n hx hb dL_law_23 rfl (lv_at hl 0 rfl) ?_
  refine xg (ci := 9) S inX9 rfl hK hP mW_0 0 (by decide) rfl kw_5_229 rfl dL_law_24 ?_
  refine lv_astore_n (lv' := [(3, .ref o), (2, .ref (u 87)), (1, .int tm), (0, .ref b)]) hx hb dL_law_27 rfl hl (by decide) rfl (fun ls hl => ?_)
  refine lv_aload_n hx hb dL_law_28 rfl (lv_at hl 1 rfl) ?_
  refine yVi (As := []) (cw := (mW o u cI cZ cJ 75 ga)) (ci := 9) S (v_X9_declare l D cI cZ cJ o u 75 ra ga σ _ H.size hok) mi_X9_declare kw_6_41 rfl rfl ⟨(Nat.le_trans (m := 14) (Nat.le_of_ble_eq_true rfl) hRf), (Nat.le_trans (m := 339) (Nat.le_of_ble_eq_true rfl) hRl)⟩ hP hD hK hS hA hB mW_0 rfl rfl hl.1 (Nat.le_of_ble_eq_true rfl) ⟨by omega, by omega⟩ dL_law_29 (fun x1 σ2 H locs hok hz hP hD hS => ?_)
  refine lv_if_ne (tgt := 37) hx hb dL_law_32 (by decide) (fun c_32 => ?_) (fun c_32 => ?_)
  · have hok := hok.2 c_32
    refine lv_aload_n hx hb dL_law_37 rfl (lv_at hl 1 rfl) ?_
    refine lv_iconst (v := 3) hx hb dL_law_38 (by decide) ?_
    refine yVi (As := [.int 3]) (cw := (mW o u cI cZ cJ 75 ga)) (ci := 9) S (v_X9_statement_3 l D cI cZ cJ o u 75 ra ga σ2 _ H.size hok) mi_X9_statement kw_6_108 rfl rfl ⟨(Nat.le_trans (m := 14) (Nat.le_of_ble_eq_true rfl) hRf), (Nat.le_trans (m := 339) (Nat.le_of_ble_eq_true rfl) hRl)⟩ hP hD hK hS hA hB mW_0 rfl rfl hl.1 (Nat.le_of_ble_eq_true rfl) ⟨by omega, by omega⟩ dL_law_39 (fun x3 σ4 H locs hok hz hP hD hS => ?_)
    refine W.widen (k := ca + 146) (n := sl + 584) (by omega) (by omega) ?_
    refine lv_istore (lv' := [(4, .int x3), (3, .ref o), (2, .ref (u 87)), (1, .int tm), (0, .ref b)]) hx hb dL_law_42 hl (by decide) rfl (fun ls hl => ?_)
    refine lv_aload_n hx hb dL_law_44 rfl (lv_at hl 1 rfl) ?_
    refine lv_iconst (v := 3) hx hb dL_law_45 (by decide) ?_
    refine zVi (mG o u ga σ4) (mN u cJ σ4) (As := [.int 3]) (cw := cW o u cI cZ cJ 75) (ci := 8) S (v_X8_many l D cI cZ cJ o u 75 ra ga σ4 3 _ H.size hok) mi_X8_many kw_3_147 rfl rfl ⟨(Nat.le_trans (m := 14) (Nat.le_of_ble_eq_true rfl) hRf), (Nat.le_trans (m := 339) (Nat.le_of_ble_eq_true rfl) hRl)⟩ hP hD hK hS hA hB cW_0 rfl rfl hl.1 (Nat.le_of_ble_eq_true rfl) ⟨by omega, by omega⟩ dL_law_46 (fun x6 σ5 H locs hok hz hP hD hS => ?_)
    rw [mrgW] at hP hD
    obtain ⟨σ7, eσ7⟩ : ∃ z : FS, z = mrg σ5 σ4 := ⟨_, rfl⟩
    rw [← eσ7] at hP hD
    have hok := hok σ7 eσ7
    refine lv_iconst (v := 1) hx hb dL_law_49 (by decide) ?_
    refine lv_icmp_ne (tgt := 92) hx hb dL_law_50 (by decide) (fun c_50 => ?_) (fun c_50 => ?_)
    · have hok := hok.2 c_50
      refine lv_iconst (v := 0) hx hb dL_law_92 (by decide) ?_
      exact False.elim hok
    · have hok := hok.1 c_50
      refine lv_aload_n hx hb dL_law_53 rfl (lv_at hl 1 rfl) ?_
      refine lv_iconst (v := 2) hx hb dL_law_54 (by decide) ?_
      refine zVi (mG o u ga σ7) (mN u cJ σ7) (As := [.int 2]) (cw := cW o u cI cZ cJ 75) (ci := 8) S (v_X8_many l D cI cZ cJ o u 75 ra ga σ7 2 _ H.size hok) mi_X8_many kw_3_147 rfl rfl ⟨(Nat.le_trans (m := 14) (Nat.le_of_ble_eq_true rfl) hRf), (Nat.le_trans (m := 339) (Nat.le_of_ble_eq_true rfl) hRl)⟩ hP hD hK hS hA hB cW_0 rfl rfl hl.1 (Nat.le_of_ble_eq_true rfl) ⟨by omega, by omega⟩ dL_law_55 (fun x9 σ8 H locs hok hz hP hD hS => ?_)
      rw [mrgW] at hP hD
      obtain ⟨σ10, eσ10⟩ : ∃ z : FS, z = mrg σ8 σ7 := ⟨_, rfl⟩
      rw [← eσ10] at hP hD
      have hok := hok σ10 eσ10
      refine lv_aload_n hx hb dL_law_58 rfl (lv_at hl 2 rfl) ?_
      refine xg (ci := 9) S inX9 rfl hK hP mW_0 3 (by decide) rfl kw_5_232 rfl dL_law_59 ?_
      refine lv_icmp_ne (tgt := 92) hx hb dL_law_62 (by decide) (fun c_62 => ?_) (fun c_62 => ?_)
      · have hok := hok.2 c_62
        refine lv_iconst (v := 0) hx hb dL_law_92 (by decide) ?_
        exact False.elim hok
      · have hok := hok.1 c_62
        refine lv_aload_n hx hb dL_law_65 rfl (lv_at hl 1 rfl) ?_
        refine lv_iconst (v := 0) hx hb dL_law_66 (by decide) ?_
        refine lv_iload hx hb dL_law_67 (lv_at hl 0 rfl) ?_
        refine zVi (mG o u ga σ10) (mN u cJ σ10) (As := [.int 0, .int x3]) (cw := cW o u cI cZ cJ 75) (ci := 8) S (v_X8_body l D cI cZ cJ o u 75 ra ga σ10 0 x3 _ H.size hok) mi_X8_body kw_2_142 rfl rfl ⟨(Nat.le_trans (m := 14) (Nat.le_of_ble_eq_true rfl) hRf), (Nat.le_trans (m := 339) (Nat.le_of_ble_eq_true rfl) hRl)⟩ hP hD hK hS hA hB cW_0 rfl rfl hl.1 (Nat.le_of_ble_eq_true rfl) ⟨by omega, by omega⟩ dL_law_69 (fun x12 σ11 H locs hok hz hP hD hS => ?_)
        rw [mrgW] at hP hD
        obtain ⟨σ13, eσ13⟩ : ∃ z : FS, z = mrg σ11 σ10 := ⟨_, rfl⟩
        rw [← eσ13] at hP hD
        have hok := hok σ13 eσ13
        refine lv_iconst (v := (-1)) hx hb dL_law_72 (by decide) ?_
        refine lv_icmp_ne (tgt := 92) hx hb dL_law_73 (by decide) (fun c_73 => ?_) (fun c_73 => ?_)
        · have hok := hok.2 c_73
          refine lv_iconst (v := 0) hx hb dL_law_92 (by decide) ?_
          exact False.elim hok
        · have hok := hok.1 c_73
          refine lv_aload_n hx hb dL_law_76 rfl (lv_at hl 1 rfl) ?_
          refine lv_iconst (v := 3) hx hb dL_law_77 (by decide) ?_
          refine zVi (mG o u ga σ13) (mN u cJ σ13) (As := [.int 3]) (cw := cW o u cI cZ cJ 75) (ci := 8) S (v_X8_many l D cI cZ cJ o u 75 ra ga σ13 3 _ H.size hok) mi_X8_many kw_3_147 rfl rfl ⟨(Nat.le_trans (m := 14) (Nat.le_of_ble_eq_true rfl) hRf), (Nat.le_trans (m := 339) (Nat.le_of_ble_eq_true rfl) hRl)⟩ hP hD hK hS hA hB cW_0 rfl rfl hl.1 (Nat.le_of_ble_eq_true rfl) ⟨by omega, by omega⟩ dL_law_78 (fun x15 σ14 H locs hok hz hP hD hS => ?_)
          rw [mrgW] at hP hD
          obtain ⟨σ16, eσ16⟩ : ∃ z : FS, z = mrg σ14 σ13 := ⟨_, rfl⟩
          rw [← eσ16] at hP hD
          have hok := hok σ16 eσ16
          refine lv_if_ne (tgt := 92) hx hb dL_law_81 (by decide) (fun c_81 => ?_) (fun c_81 => ?_)
          · have hok := hok.2 c_81
            refine lv_iconst (v := 0) hx hb dL_law_92 (by decide) ?_
            exact False.elim hok
          · have hok := hok.1 c_81
            refine lv_aload_n hx hb dL_law_84 rfl (lv_at hl 1 rfl) ?_
            refine lv_iconst (v := 2) hx hb dL_law_85 (by decide) ?_
            refine zVi (mG o u ga σ16) (mN u cJ σ16) (As := [.int 2]) (cw := cW o u cI cZ cJ 75) (ci := 8) S (v_X8_many l D cI cZ cJ o u 75 ra ga σ16 2 _ H.size hok) mi_X8_many kw_3_147 rfl rfl ⟨(Nat.le_trans (m := 14) (Nat.le_of_ble_eq_true rfl) hRf), (Nat.le_trans (m := 339) (Nat.le_of_ble_eq_true rfl) hRl)⟩ hP hD hK hS hA hB cW_0 rfl rfl hl.1 (Nat.le_of_ble_eq_true rfl) ⟨by omega, by omega⟩ dL_law_86 (fun x18 σ17 H locs hok hz hP hD hS => ?_)
            rw [mrgW] at hP hD
            obtain ⟨σ19, eσ19⟩ : ∃ z : FS, z = mrg σ17 σ16 := ⟨_, rfl⟩
            rw [← eσ19] at hP hD
            have hok := hok σ19 eσ19
            refine lv_if_eq (tgt := 94) hx hb dL_law_89 (by decide) (fun c_89 => ?_) (fun c_89 => ?_)
            · have hok := hok.1 c_89
              refine lv_aload_n hx hb dL_law_94 rfl (lv_at hl 1 rfl) ?_
              refine zVi (mG o u ga σ19) (mN u cJ σ19) (As := []) (cw := cW o u cI cZ cJ 79) (ci := 8) S (v_X8_run l D cI cZ cJ o u 75 ra ga σ19 _ H.size hok) mi_X8_run kw_2_198 rfl rfl ⟨(Nat.le_trans (m := 14) (Nat.le_of_ble_eq_true rfl) hRf), (Nat.le_trans (m := 339) (Nat.le_of_ble_eq_true rfl) hRl)⟩ hP hD hK hS hA hB cW_0 rfl rfl hl.1 (Nat.le_of_ble_eq_true rfl) ⟨by omega, by omega⟩ dL_law_95 (fun x21 σ20 H locs hok hz hP hD hS => ?_)
              rw [mrgW] at hP hD
              obtain ⟨σ22, eσ22⟩ : ∃ z : FS, z = mrg σ20 σ19 := ⟨_, rfl⟩
              rw [← eσ22] at hP hD
              have hok := hok σ22 eσ22
              refine lv_istore (lv' := [(5, .int x21), (4, .int x3), (3, .ref o), (2, .ref (u 87)), (1, .int tm), (0, .ref b)]) hx hb dL_law_98 hl (by decide) rfl (fun ls hl => ?_)
              refine lv_bipush (v := 10) hx hb dL_law_100 (by decide) ?_
              refine xnewa (ty := .int) (t0 := 0) (N := 10) (a0 := (10, .inl (fun _ => 0))) S kw_3_130 rfl (Or.inl rfl) hK hP hD hS hA rfl (fun _ => rfl) (by decide) (by decide) (by decide) (by omega) (by omega) dL_law_102 (fun ta H hP hD hS => ?_)
              rw [lWn_90] at hP hD
              obtain ⟨σ23, eσ23⟩ : ∃ z : FS, z = sC σ22 90 0 := ⟨_, rfl⟩
              rw [← eσ23] at hP hD
              have hok := hok σ23 eσ23
              refine W.widen (k := ca + 147) (n := sl + 594) (by omega) (by omega) ?_
              refine lv_astore (lv' := [(6, .ref ta), (5, .int x21), (4, .int x3), (3, .ref o), (2, .ref (u 87)), (1, .int tm), (0, .ref b)]) hx hb dL_law_104 hl (by decide) rfl (fun ls hl => ?_)
              refine lv_iconst (v := 0) hx hb dL_law_106 (by decide) ?_
              refine lv_istore (lv' := [(7, .int 0), (6, .ref ta), (5, .int x21), (4, .int x3), (3, .ref o), (2, .ref (u 87)), (1, .int tm), (0, .ref b)]) hx hb dL_law_107 hl (by decide) rfl (fun ls hl => ?_)
              refine W.widen (k := ca + 147) (n := sl + 594) (by omega) (by omega) ?_
              have lp109 : ∀ (K : FS → Int32 → Prop), (∀ (τ0 : FS) (l7_0 : Int32) (H : Heap) (locs : List Loc) (ls : Array Slot), K τ0 l7_0 → lv_has ls 16 [(7, .int l7_0), (6, .ref ta), (5, .int x21), (4, .int x3), (3, .ref o), (2, .ref (u 87)), (1, .int tm), (0, .ref b)] → va_P D vwCl (lW1 o u cI cZ cJ ta 79 ga τ0) H → va_D A (lW1 o u cI cZ cJ ta 79 ga τ0) → va_S A s.heap H locs → W p l e R s m args below meth c H locs (ca + 147) (sl + 594) Q (F0 m 133 ls [])) → ∀ (n0 : Nat) (τ0 : FS) (l7_0 : Int32) (H : Heap) (locs : List Loc) (ls : Array Slot), wp_law_109 ga x21 x3 K n0 τ0 l7_0 → lv_has ls 16 [(7, .int l7_0), (6, .ref ta), (5, .int x21), (4, .int x3), (3, .ref o), (2, .ref (u 87)), (1, .int tm), (0, .ref b)] → va_P D vwCl (lW1 o u cI cZ cJ ta 79 ga τ0) H → va_D A (lW1 o u cI cZ cJ ta 79 ga τ0) → va_S A s.heap H locs → W p l e R s m args below meth c H locs (ca + 147) (sl + 594) Q (F0 m 109 ls []) := by
                intro K hk n0
                induction n0 with
                | zero => intro τ0 l7_0 H locs ls hok; exact False.elim hok
                | succ n0 ih109 =>
                  intro τ0 l7_0 H locs ls hok hl hP hD hS
                  refine lv_iload hx hb dL_law_109 (lv_at hl 0 rfl) ?_
                  refine lv_bipush (v := 10) hx hb dL_law_111 (by decide) ?_
                  refine lv_icmp_ge (tgt := 133) hx hb dL_law_113 (by decide) (fun c_113 => ?_) (fun c_113 => ?_)
                  · have hok := hok.1 c_113
                    exact hk τ0 l7_0 H locs ls hok (lv_sub hl [0, 1, 2, 3, 4, 5, 6, 7] rfl) hP hD hS
                  · have hok := hok.2 c_113
                    refine lv_aload hx hb dL_law_116 (lv_at hl 1 rfl) ?_
                    refine lv_iload hx hb dL_law_118 (lv_at hl 0 rfl) ?_
                    refine lv_aload_n hx hb dL_law_120 rfl (lv_at hl 4 rfl) ?_
                    refine lv_iload hx hb dL_law_121 (lv_at hl 0 rfl) ?_
                    rw [lW1_mill] at hP hD
                    refine zVi (mG o u ga τ0) (mN u cJ τ0 ++ tX cI ta τ0) (As := [.int l7_0]) (cw := cW o u cI cZ cJ 79) (ci := 8) S (v_X8_ofRun l D cI cZ cJ o u 79 ra ga τ0 l7_0 _ H.size hok) mi_X8_ofRun kw_3_131 rfl rfl ⟨(Nat.le_trans (m := 14) (Nat.le_of_ble_eq_true rfl) hRf), (Nat.le_trans (m := 339) (Nat.le_of_ble_eq_true rfl) hRl)⟩ hP hD hK hS hA hB cW_0 rfl rfl hl.1 (Nat.le_of_ble_eq_true rfl) ⟨by omega, by omega⟩ dL_law_123 (fun x25 σ24 H locs hok hz hP hD hS => ?_)
                    rw [lW1_c] at hP hD
                    obtain ⟨σ26, eσ26⟩ : ∃ z : FS, z = mrg σ24 τ0 := ⟨_, rfl⟩
                    rw [← eσ26] at hP hD
                    have hok := hok σ26 eσ26
                    have h_126 := hok.1
                    have hok := hok.2
                    refine yiast (t0 := 0) (cw := (lW1 o u cI cZ cJ ta 79 ga)) S hK hP hD hS lW1_90 rfl h_126 dL_law_126 lWa_90 (fun σ27 H locs eσ27 hP hD hS => ?_)
                    have hok := hok σ27 eσ27
                    refine lv_iinc (v := l7_0 + 1) (lv' := [(7, .int (l7_0 + 1)), (6, .ref ta), (5, .int x21), (4, .int x3), (3, .ref o), (2, .ref (u 87)), (1, .int tm), (0, .ref b)]) hx hb dL_law_127 hl (k := 0) rfl rfl (by decide) rfl (fun ls hl => ?_)
                    refine lv_goto (tgt := 109) hx hb dL_law_130 (by decide) ?_
                    exact ih109 σ27 (l7_0 + 1) H locs ls hok (lv_sub hl [0, 1, 2, 3, 4, 5, 6, 7] rfl) hP hD hS
              refine lp109 _ ?_ FUEL σ23 0 _ _ _ hok (lv_sub hl [0, 1, 2, 3, 4, 5, 6, 7] rfl) hP hD hS
              intro σ28 x29 H locs ls hok hl hP hD hS
              refine lv_bipush (v := 50) hx hb dL_law_133 (by decide) ?_
              refine lv_aload hx hb dL_law_135 (lv_at hl 1 rfl) ?_
              refine lv_iconst (v := 4) hx hb dL_law_137 (by decide) ?_
              refine xiald (t0 := 0) (v := (g σ28 90 4)) S hK hP lW1_90 rfl (vin rfl) rfl dL_law_138 ?_
              refine ymmin S kw_6_122 kw_3_0 kw_1_19 kw_3_1 hl.1 (Nat.le_trans (m := 14) (Nat.le_of_ble_eq_true rfl) hRf) (Nat.le_trans (m := 339) (Nat.le_of_ble_eq_true rfl) hRl) ⟨by omega, by omega⟩ dL_law_139 ?_
              refine lv_topi (fun x30 ex30 => ?_)
              have hok := hok x30 ex30
              refine lv_istore (lv' := [(7, .int x30), (6, .ref ta), (5, .int x21), (4, .int x3), (3, .ref o), (2, .ref (u 87)), (1, .int tm), (0, .ref b)]) hx hb dL_law_142 hl (by decide) rfl (fun ls hl => ?_)
              refine lv_iconst (v := 3) hx hb dL_law_144 (by decide) ?_
              refine lv_iload hx hb dL_law_145 (lv_at hl 0 rfl) ?_
              refine ximul (v := 3 * x30) S dL_law_147 rfl ?_
              refine lv_topi (fun x31 ex31 => ?_)
              have hok := hok x31 ex31
              obtain ⟨pn, hpn, e_pn, hok⟩ := hok
              rw [e_pn]
              refine xnewa (ty := .int) (t0 := 0) (N := pn) (a0 := (pn, .inl (fun _ => 0))) S kw_3_130 rfl (Or.inl rfl) hK hP hD hS hA rfl (fun _ => rfl) (nI_pos (by omega)) (nI_clamp (by omega)) (Nat.le_trans (Nat.mul_le_mul_right _ hpn) (by decide)) (by omega) (by omega) dL_law_148 (fun pa H hP hD hS => ?_)
              rw [lWn_91] at hP hD
              obtain ⟨σ32, eσ32⟩ : ∃ z : FS, z = sC σ28 91 0 := ⟨_, rfl⟩
              rw [← eσ32] at hP hD
              have hok := hok σ32 eσ32
              refine W.widen (k := ca + 148) (n := sl + 744) (by omega) (by omega) ?_
              refine lv_astore (lv' := [(8, .ref pa), (7, .int x30), (6, .ref ta), (5, .int x21), (4, .int x3), (3, .ref o), (2, .ref (u 87)), (1, .int tm), (0, .ref b)]) hx hb dL_law_150 hl (by decide) rfl (fun ls hl => ?_)
              refine lv_iconst (v := 0) hx hb dL_law_152 (by decide) ?_
              refine lv_istore (lv' := [(9, .int 0), (8, .ref pa), (7, .int x30), (6, .ref ta), (5, .int x21), (4, .int x3), (3, .ref o), (2, .ref (u 87)), (1, .int tm), (0, .ref b)]) hx hb dL_law_153 hl (by decide) rfl (fun ls hl => ?_)
              refine W.widen (k := ca + 148) (n := sl + 744) (by omega) (by omega) ?_
              have lp155 : ∀ (K : FS → Int32 → Prop), (∀ (τ0 : FS) (l9_0 : Int32) (H : Heap) (locs : List Loc) (ls : Array Slot), K τ0 l9_0 → lv_has ls 16 [(9, .int l9_0), (8, .ref pa), (7, .int x30), (6, .ref ta), (5, .int x21), (4, .int x3), (3, .ref o), (2, .ref (u 87)), (1, .int tm), (0, .ref b)] → va_P D vwCl (lW2 o u cI cZ cJ ta pa pn 79 ga τ0) H → va_D A (lW2 o u cI cZ cJ ta pa pn 79 ga τ0) → va_S A s.heap H locs → W p l e R s m args below meth c H locs (ca + 148) (sl + 744) Q (F0 m 186 ls [])) → ∀ (n0 : Nat) (τ0 : FS) (l9_0 : Int32) (H : Heap) (locs : List Loc) (ls : Array Slot), wp_law_155 ga pn x21 x3 x30 K n0 τ0 l9_0 → lv_has ls 16 [(9, .int l9_0), (8, .ref pa), (7, .int x30), (6, .ref ta), (5, .int x21), (4, .int x3), (3, .ref o), (2, .ref (u 87)), (1, .int tm), (0, .ref b)] → va_P D vwCl (lW2 o u cI cZ cJ ta pa pn 79 ga τ0) H → va_D A (lW2 o u cI cZ cJ ta pa pn 79 ga τ0) → va_S A s.heap H locs → W p l e R s m args below meth c H locs (ca + 148) (sl + 744) Q (F0 m 155 ls []) := by
                intro K hk n0
                induction n0 with
                | zero => intro τ0 l9_0 H locs ls hok; exact False.elim hok
                | succ n0 ih155 =>
                  intro τ0 l9_0 H locs ls hok hl hP hD hS
                  refine lv_iload hx hb dL_law_155 (lv_at hl 0 rfl) ?_
                  refine lv_aload hx hb dL_law_157 (lv_at hl 1 rfl) ?_
                  refine xalen (t0 := 0) (v := nI pn) S hK hP lW2_91 rfl rfl dL_law_159 ?_
                  refine lv_icmp_ge (tgt := 186) hx hb dL_law_160 (by decide) (fun c_160 => ?_) (fun c_160 => ?_)
                  · have hok := hok.1 c_160
                    exact hk τ0 l9_0 H locs ls hok (lv_sub hl [0, 1, 2, 3, 4, 5, 6, 7, 8, 9] rfl) hP hD hS
                  · have hok := hok.2 c_160
                    refine lv_aload hx hb dL_law_163 (lv_at hl 1 rfl) ?_
                    refine lv_iload hx hb dL_law_165 (lv_at hl 0 rfl) ?_
                    refine lv_aload_n hx hb dL_law_167 rfl (lv_at hl 6 rfl) ?_
                    refine lv_iload hx hb dL_law_168 (lv_at hl 0 rfl) ?_
                    refine lv_iconst (v := 3) hx hb dL_law_170 (by decide) ?_
                    refine xidiv (v := l9_0 / 3) S dL_law_171 (by decide) rfl ?_
                    refine lv_iload hx hb dL_law_172 (lv_at hl 0 rfl) ?_
                    refine lv_iconst (v := 3) hx hb dL_law_174 (by decide) ?_
                    refine xirem (v := l9_0 - l9_0 / 3 * 3) S dL_law_175 (by decide) rfl ?_
                    rw [lW2_mill] at hP hD
                    refine zVi (mG o u ga τ0) (mN u cJ τ0 ++ pX cI ta pa pn τ0) (As := [.int (l9_0 / 3), .int (l9_0 - l9_0 / 3 * 3)]) (cw := cW o u cI cZ cJ 79) (ci := 8) S (v_X8_printed l D cI cZ cJ o u 79 ra ga τ0 (l9_0 / 3) (l9_0 - l9_0 / 3 * 3) _ H.size hok) mi_X8_printed kw_3_139 rfl rfl ⟨(Nat.le_trans (m := 14) (Nat.le_of_ble_eq_true rfl) hRf), (Nat.le_trans (m := 339) (Nat.le_of_ble_eq_true rfl) hRl)⟩ hP hD hK hS hA hB cW_0 rfl rfl hl.1 (Nat.le_of_ble_eq_true rfl) ⟨by omega, by omega⟩ dL_law_176 (fun x34 σ33 H locs hok hz hP hD hS => ?_)
                    rw [lW2_c] at hP hD
                    obtain ⟨σ35, eσ35⟩ : ∃ z : FS, z = mrg σ33 τ0 := ⟨_, rfl⟩
                    rw [← eσ35] at hP hD
                    have hok := hok σ35 eσ35
                    have h_179 := hok.1
                    have hok := hok.2
                    refine yiast (t0 := 0) (cw := (lW2 o u cI cZ cJ ta pa pn 79 ga)) S hK hP hD hS lW2_91 rfl h_179 dL_law_179 lWa_91 (fun σ36 H locs eσ36 hP hD hS => ?_)
                    have hok := hok σ36 eσ36
                    refine lv_iinc (v := l9_0 + 1) (lv' := [(9, .int (l9_0 + 1)), (8, .ref pa), (7, .int x30), (6, .ref ta), (5, .int x21), (4, .int x3), (3, .ref o), (2, .ref (u 87)), (1, .int tm), (0, .ref b)]) hx hb dL_law_180 hl (k := 0) rfl rfl (by decide) rfl (fun ls hl => ?_)
                    refine lv_goto (tgt := 155) hx hb dL_law_183 (by decide) ?_
                    exact ih155 σ36 (l9_0 + 1) H locs ls hok (lv_sub hl [0, 1, 2, 3, 4, 5, 6, 7, 8, 9] rfl) hP hD hS
              refine lp155 _ ?_ FUEL σ32 0 _ _ _ hok (lv_sub hl [0, 1, 2, 3, 4, 5, 6, 7, 8, 9] rfl) hP hD hS
              intro σ37 x38 H locs ls hok hl hP hD hS
              refine lv_aload_n hx hb dL_law_186 rfl (lv_at hl 6 rfl) ?_
              rw [lW2_mill] at hP hD
              refine zVl (mG o u ga σ37) (mN u cJ σ37 ++ pX cI ta pa pn σ37) (As := []) (cw := cW o u cI cZ cJ 83) (ci := 8) S (v_X8_digest l D cI cZ cJ o u 79 ra ga σ37 _ H.size hok) mi_X8_digest kw_3_169 rfl rfl ⟨(Nat.le_trans (m := 14) (Nat.le_of_ble_eq_true rfl) hRf), (Nat.le_trans (m := 339) (Nat.le_of_ble_eq_true rfl) hRl)⟩ hP hD hK hS hA hB cW_0 rfl rfl hl.1 (Nat.le_of_ble_eq_true rfl) ⟨by omega, by omega⟩ dL_law_187 (fun x40 σ39 H locs hok hz hP hD hS => ?_)
              rw [lW2_c] at hP hD
              obtain ⟨σ41, eσ41⟩ : ∃ z : FS, z = mrg σ39 σ37 := ⟨_, rfl⟩
              rw [← eσ41] at hP hD
              have hok := hok σ41 eσ41
              refine lv_lstore (lv' := [(9, .long x40), (8, .ref pa), (7, .int x30), (6, .ref ta), (5, .int x21), (4, .int x3), (3, .ref o), (2, .ref (u 87)), (1, .int tm), (0, .ref b)]) hx hb dL_law_190 hl (by decide) rfl (fun ls hl => ?_)
              refine lv_iconst (v := 0) hx hb dL_law_192 (by decide) ?_
              refine lv_istore (lv' := [(11, .int 0), (9, .long x40), (8, .ref pa), (7, .int x30), (6, .ref ta), (5, .int x21), (4, .int x3), (3, .ref o), (2, .ref (u 87)), (1, .int tm), (0, .ref b)]) hx hb dL_law_193 hl (by decide) rfl (fun ls hl => ?_)
              refine W.widen (k := ca + 148) (n := sl + 744) (by omega) (by omega) ?_
              have lp195 : ∀ (K : FS → Int32 → Prop), (∀ (τ0 : FS) (l11_0 : Int32) (H : Heap) (locs : List Loc) (ls : Array Slot), K τ0 l11_0 → lv_has ls 16 [(11, .int l11_0), (9, .long x40), (8, .ref pa), (7, .int x30), (6, .ref ta), (5, .int x21), (4, .int x3), (3, .ref o), (2, .ref (u 87)), (1, .int tm), (0, .ref b)] → va_P D vwCl (lW2 o u cI cZ cJ ta pa pn 83 ga τ0) H → va_D A (lW2 o u cI cZ cJ ta pa pn 83 ga τ0) → va_S A s.heap H locs → W p l e R s m args below meth c H locs (ca + 148) (sl + 744) Q (F0 m 471 ls [])) → ∀ (n0 : Nat) (τ0 : FS) (l11_0 : Int32) (H : Heap) (locs : List Loc) (ls : Array Slot), wp_law_195 ga pn x21 x3 x30 x40 K n0 τ0 l11_0 → lv_has ls 16 [(11, .int l11_0), (9, .long x40), (8, .ref pa), (7, .int x30), (6, .ref ta), (5, .int x21), (4, .int x3), (3, .ref o), (2, .ref (u 87)), (1, .int tm), (0, .ref b)] → va_P D vwCl (lW2 o u cI cZ cJ ta pa pn 83 ga τ0) H → va_D A (lW2 o u cI cZ cJ ta pa pn 83 ga τ0) → va_S A s.heap H locs → W p l e R s m args below meth c H locs (ca + 148) (sl + 744) Q (F0 m 195 ls []) := by
                intro K hk n0
                induction n0 with
                | zero => intro τ0 l11_0 H locs ls hok; exact False.elim hok
                | succ n0 ih195 =>
                  intro τ0 l11_0 H locs ls hok hl hP hD hS
                  refine lv_iload hx hb dL_law_195 (lv_at hl 0 rfl) ?_
                  refine lv_iconst (v := 4) hx hb dL_law_197 (by decide) ?_
                  refine lv_icmp_ge (tgt := 471) hx hb dL_law_198 (by decide) (fun c_198 => ?_) (fun c_198 => ?_)
                  · have hok := hok.1 c_198
                    exact hk τ0 l11_0 H locs ls hok (lv_sub hl [0, 1, 2, 3, 4, 5, 6, 7, 8, 9, 10] rfl) hP hD hS
                  · have hok := hok.2 c_198
                    refine lv_iconst (v := 1) hx hb dL_law_201 (by decide) ?_
                    refine lv_aload_n hx hb dL_law_202 rfl (lv_at hl 8 rfl) ?_
                    refine lv_sipush (v := 3000) hx hb dL_law_203 (by decide) ?_
                    have hP : va_P D vwCl (([] : va_W) ++ ((mW o u cI cZ cJ 83 ga τ0) ++ pX cI ta pa pn τ0)) H := hP
                    have hD : va_D A (([] : va_W) ++ ((mW o u cI cZ cJ 83 ga τ0) ++ pX cI ta pa pn τ0)) := hD
                    refine zVi [] (pX cI ta pa pn τ0) (As := [.int 3000]) (cw := (mW o u cI cZ cJ 83 ga)) (ci := 9) S (v_X9_draw l D cI cZ cJ o u 83 ra ga τ0 3000 _ H.size hok) mi_X9_draw kw_6_29 rfl rfl ⟨(Nat.le_trans (m := 14) (Nat.le_of_ble_eq_true rfl) hRf), (Nat.le_trans (m := 339) (Nat.le_of_ble_eq_true rfl) hRl)⟩ hP hD hK hS hA hB mW_0 rfl rfl hl.1 (Nat.le_of_ble_eq_true rfl) ⟨by omega, by omega⟩ dL_law_206 (fun x42 σ44 H locs hok hz hP hD hS => ?_)
                    have hP : va_P D vwCl ((mW o u cI cZ cJ 83 ga σ44) ++ pX cI ta pa pn τ0) H := hP
                    have hD : va_D A ((mW o u cI cZ cJ 83 ga σ44) ++ pX cI ta pa pn τ0) := hD
                    rw [lW2_m] at hP hD
                    obtain ⟨σ45, eσ45⟩ : ∃ z : FS, z = mrm σ44 τ0 := ⟨_, rfl⟩
                    rw [← eσ45] at hP hD
                    have hok := hok σ45 eσ45
                    refine xiadd (v := 1 + x42) S dL_law_209 rfl ?_
                    refine lv_topi (fun x46 ex46 => ?_)
                    have hok := hok x46 ex46
                    refine lv_istore (lv' := [(12, .int x46), (11, .int l11_0), (9, .long x40), (8, .ref pa), (7, .int x30), (6, .ref ta), (5, .int x21), (4, .int x3), (3, .ref o), (2, .ref (u 87)), (1, .int tm), (0, .ref b)]) hx hb dL_law_210 hl (by decide) rfl (fun ls hl => ?_)
                    have jn : ∀ (σj : FS) (H : Heap) (locs : List Loc) (ls : Array Slot), wp_law_369 ga pn l11_0 x21 x3 x30 x40 x46 (fun (σk : FS) => wp_law_195 ga pn x21 x3 x30 x40 K n0 σk (l11_0 + 1)) σj → lv_has ls 16 [(12, .int x46), (11, .int l11_0), (9, .long x40), (8, .ref pa), (7, .int x30), (6, .ref ta), (5, .int x21), (4, .int x3), (3, .ref o), (2, .ref (u 87)), (1, .int tm), (0, .ref b)] → va_P D vwCl (lW2 o u cI cZ cJ ta pa pn 83 ga σj) H → va_D A (lW2 o u cI cZ cJ ta pa pn 83 ga σj) → va_S A s.heap H locs → W p l e R s m args below meth c H locs (ca + 148) (sl + 744) Q (F0 m 369 ls []) := by
                      intro σj H locs ls hok hl hP hD hS
                      refine lv_aload_n hx hb dL_law_369 rfl (lv_at hl 8 rfl) ?_
                      refine lv_bipush (v := 10) hx hb dL_law_370 (by decide) ?_
                      rw [lW2_mill] at hP hD
                      refine zVi (mG o u ga σj) (mN u cJ σj ++ pX cI ta pa pn σj) (As := [.int 10]) (cw := cW o u cI cZ cJ 83) (ci := 8) S (v_X8_many l D cI cZ cJ o u 83 ra ga σj 10 _ H.size hok) mi_X8_many kw_3_147 rfl rfl ⟨(Nat.le_trans (m := 14) (Nat.le_of_ble_eq_true rfl) hRf), (Nat.le_trans (m := 339) (Nat.le_of_ble_eq_true rfl) hRl)⟩ hP hD hK hS hA hB cW_0 rfl rfl hl.1 (Nat.le_of_ble_eq_true rfl) ⟨by omega, by omega⟩ dL_law_372 (fun x48 σ47 H locs hok hz hP hD hS => ?_)
                      rw [lW2_c] at hP hD
                      obtain ⟨σ49, eσ49⟩ : ∃ z : FS, z = mrg σ47 σj := ⟨_, rfl⟩
                      rw [← eσ49] at hP hD
                      have hok := hok σ49 eσ49
                      refine lv_istore (lv' := [(13, .int x48), (12, .int x46), (11, .int l11_0), (9, .long x40), (8, .ref pa), (7, .int x30), (6, .ref ta), (5, .int x21), (4, .int x3), (3, .ref o), (2, .ref (u 87)), (1, .int tm), (0, .ref b)]) hx hb dL_law_375 hl (by decide) rfl (fun ls hl => ?_)
                      refine lv_iconst (v := 0) hx hb dL_law_377 (by decide) ?_
                      refine lv_istore (lv' := [(14, .int 0), (13, .int x48), (12, .int x46), (11, .int l11_0), (9, .long x40), (8, .ref pa), (7, .int x30), (6, .ref ta), (5, .int x21), (4, .int x3), (3, .ref o), (2, .ref (u 87)), (1, .int tm), (0, .ref b)]) hx hb dL_law_378 hl (by decide) rfl (fun ls hl => ?_)
                      refine lv_iconst (v := 0) hx hb dL_law_380 (by decide) ?_
                      refine lv_istore (lv' := [(15, .int 0), (14, .int 0), (13, .int x48), (12, .int x46), (11, .int l11_0), (9, .long x40), (8, .ref pa), (7, .int x30), (6, .ref ta), (5, .int x21), (4, .int x3), (3, .ref o), (2, .ref (u 87)), (1, .int tm), (0, .ref b)]) hx hb dL_law_381 hl (by decide) rfl (fun ls hl => ?_)
                      refine W.widen (k := ca + 148) (n := sl + 744) (by omega) (by omega) ?_
                      have lp383 : ∀ (K : FS → Int32 → Int32 → Prop), (∀ (τ1 : FS) (l15_1 : Int32) (l14_1 : Int32) (H : Heap) (locs : List Loc) (ls : Array Slot), K τ1 l15_1 l14_1 → lv_has ls 16 [(15, .int l15_1), (14, .int l14_1), (13, .int x48), (12, .int x46), (11, .int l11_0), (9, .long x40), (8, .ref pa), (7, .int x30), (6, .ref ta), (5, .int x21), (4, .int x3), (3, .ref o), (2, .ref (u 87)), (1, .int tm), (0, .ref b)] → va_P D vwCl (lW2 o u cI cZ cJ ta pa pn 83 ga τ1) H → va_D A (lW2 o u cI cZ cJ ta pa pn 83 ga τ1) → va_S A s.heap H locs → W p l e R s m args below meth c H locs (ca + 148) (sl + 744) Q (F0 m 409 ls [])) → ∀ (n1 : Nat) (τ1 : FS) (l15_1 : Int32) (l14_1 : Int32) (H : Heap) (locs : List Loc) (ls : Array Slot), wp_law_383 ga pn l11_0 x21 x3 x30 x40 x46 x48 K n1 τ1 l15_1 l14_1 → lv_has ls 16 [(15, .int l15_1), (14, .int l14_1), (13, .int x48), (12, .int x46), (11, .int l11_0), (9, .long x40), (8, .ref pa), (7, .int x30), (6, .ref ta), (5, .int x21), (4, .int x3), (3, .ref o), (2, .ref (u 87)), (1, .int tm), (0, .ref b)] → va_P D vwCl (lW2 o u cI cZ cJ ta pa pn 83 ga τ1) H → va_D A (lW2 o u cI cZ cJ ta pa pn 83 ga τ1) → va_S A s.heap H locs → W p l e R s m args below meth c H locs (ca + 148) (sl + 744) Q (F0 m 383 ls []) := by
                        intro K hk n1
                        induction n1 with
                        | zero => intro τ1 l15_1 l14_1 H locs ls hok; exact False.elim hok
                        | succ n1 ih383 =>
                          intro τ1 l15_1 l14_1 H locs ls hok hl hP hD hS
                          refine lv_iload hx hb dL_law_383 (lv_at hl 0 rfl) ?_
                          refine lv_iload hx hb dL_law_385 (lv_at hl 2 rfl) ?_
                          refine lv_icmp_ge (tgt := 409) hx hb dL_law_387 (by decide) (fun c_387 => ?_) (fun c_387 => ?_)
                          · have hok := hok.1 c_387
                            exact hk τ1 l15_1 l14_1 H locs ls hok (lv_sub hl [0, 1, 2, 3, 4, 5, 6, 7, 8, 9, 10, 11, 12, 13, 14] rfl) hP hD hS
                          · have hok := hok.2 c_387
                            refine lv_iload hx hb dL_law_390 (lv_at hl 1 rfl) ?_
                            refine lv_aload_n hx hb dL_law_392 rfl (lv_at hl 11 rfl) ?_
                            refine lv_iconst (v := 0) hx hb dL_law_393 (by decide) ?_
                            refine lv_iload hx hb dL_law_394 (lv_at hl 0 rfl) ?_
                            refine lv_iconst (v := 3) hx hb dL_law_396 (by decide) ?_
                            rw [lW2_mill] at hP hD
                            refine zVi (mG o u ga τ1) (mN u cJ τ1 ++ pX cI ta pa pn τ1) (As := [.int 0, .int l15_1, .int 3]) (cw := cW o u cI cZ cJ 83) (ci := 8) S (v_X8_code l D cI cZ cJ o u 83 ra ga τ1 0 l15_1 3 _ H.size hok) mi_X8_code kw_2_194 rfl rfl ⟨(Nat.le_trans (m := 14) (Nat.le_of_ble_eq_true rfl) hRf), (Nat.le_trans (m := 339) (Nat.le_of_ble_eq_true rfl) hRl)⟩ hP hD hK hS hA hB cW_0 rfl rfl hl.1 (Nat.le_of_ble_eq_true rfl) ⟨by omega, by omega⟩ dL_law_397 (fun x51 σ50 H locs hok hz hP hD hS => ?_)
                            rw [lW2_c] at hP hD
                            obtain ⟨σ52, eσ52⟩ : ∃ z : FS, z = mrg σ50 τ1 := ⟨_, rfl⟩
                            rw [← eσ52] at hP hD
                            have hok := hok σ52 eσ52
                            refine xiadd (v := l14_1 + x51) S dL_law_400 rfl ?_
                            refine lv_topi (fun x53 ex53 => ?_)
                            have hok := hok x53 ex53
                            refine lv_istore (lv' := [(14, .int x53), (15, .int l15_1), (13, .int x48), (12, .int x46), (11, .int l11_0), (9, .long x40), (8, .ref pa), (7, .int x30), (6, .ref ta), (5, .int x21), (4, .int x3), (3, .ref o), (2, .ref (u 87)), (1, .int tm), (0, .ref b)]) hx hb dL_law_401 hl (by decide) rfl (fun ls hl => ?_)
                            refine lv_iinc (v := l15_1 + 1) (lv' := [(15, .int (l15_1 + 1)), (14, .int x53), (13, .int x48), (12, .int x46), (11, .int l11_0), (9, .long x40), (8, .ref pa), (7, .int x30), (6, .ref ta), (5, .int x21), (4, .int x3), (3, .ref o), (2, .ref (u 87)), (1, .int tm), (0, .ref b)]) hx hb dL_law_403 hl (k := 1) rfl rfl (by decide) rfl (fun ls hl => ?_)
                            refine lv_goto (tgt := 383) hx hb dL_law_406 (by decide) ?_
                            exact ih383 σ52 (l15_1 + 1) x53 H locs ls hok (lv_sub hl [0, 1, 2, 3, 4, 5, 6, 7, 8, 9, 10, 11, 12, 13, 14] rfl) hP hD hS
                      refine lp383 _ ?_ FUEL σ49 0 0 _ _ _ hok (lv_sub hl [0, 1, 2, 3, 4, 5, 6, 7, 8, 9, 10, 11, 12, 13, 14] rfl) hP hD hS
                      intro σ54 x55 x56 H locs ls hok hl hP hD hS
                      refine lv_iload hx hb dL_law_409 (lv_at hl 1 rfl) ?_
                      refine lv_aload_n hx hb dL_law_411 rfl (lv_at hl 12 rfl) ?_
                      refine xg (ci := 9) S inX9 rfl hK hP lW2_0 3 (by decide) rfl kw_5_232 rfl dL_law_412 ?_
                      refine lv_icmp_ne (tgt := 463) hx hb dL_law_415 (by decide) (fun c_415 => ?_) (fun c_415 => ?_)
                      · have hok := hok.2 c_415
                        refine lv_iconst (v := 0) hx hb dL_law_463 (by decide) ?_
                        exact False.elim hok
                      · have hok := hok.1 c_415
                        refine lv_aload_n hx hb dL_law_418 rfl (lv_at hl 11 rfl) ?_
                        refine lv_iconst (v := 0) hx hb dL_law_419 (by decide) ?_
                        refine lv_bipush (v := 7) hx hb dL_law_420 (by decide) ?_
                        rw [lW2_mill] at hP hD
                        refine zVi (mG o u ga σ54) (mN u cJ σ54 ++ pX cI ta pa pn σ54) (As := [.int 0, .int 7]) (cw := cW o u cI cZ cJ 83) (ci := 8) S (v_X8_ofProcedure l D cI cZ cJ o u 83 ra ga σ54 0 7 _ H.size hok) mi_X8_ofProcedure kw_1_21 rfl rfl ⟨(Nat.le_trans (m := 14) (Nat.le_of_ble_eq_true rfl) hRf), (Nat.le_trans (m := 339) (Nat.le_of_ble_eq_true rfl) hRl)⟩ hP hD hK hS hA hB cW_0 rfl rfl hl.1 (Nat.le_of_ble_eq_true rfl) ⟨by omega, by omega⟩ dL_law_422 (fun x58 σ57 H locs hok hz hP hD hS => ?_)
                        rw [lW2_c] at hP hD
                        obtain ⟨σ59, eσ59⟩ : ∃ z : FS, z = mrg σ57 σ54 := ⟨_, rfl⟩
                        rw [← eσ59] at hP hD
                        have hok := hok σ59 eσ59
                        refine lv_iload hx hb dL_law_425 (lv_at hl 2 rfl) ?_
                        refine lv_icmp_ne (tgt := 463) hx hb dL_law_427 (by decide) (fun c_427 => ?_) (fun c_427 => ?_)
                        · have hok := hok.2 c_427
                          refine lv_iconst (v := 0) hx hb dL_law_463 (by decide) ?_
                          exact False.elim hok
                        · have hok := hok.1 c_427
                          refine lv_aload_n hx hb dL_law_430 rfl (lv_at hl 11 rfl) ?_
                          refine lv_aload_n hx hb dL_law_431 rfl (lv_at hl 11 rfl) ?_
                          refine lv_bipush (v := 7) hx hb dL_law_432 (by decide) ?_
                          rw [lW2_mill] at hP hD
                          refine zVi (mG o u ga σ59) (mN u cJ σ59 ++ pX cI ta pa pn σ59) (As := [.int 7]) (cw := cW o u cI cZ cJ 83) (ci := 8) S (v_X8_many l D cI cZ cJ o u 83 ra ga σ59 7 _ H.size hok) mi_X8_many kw_3_147 rfl rfl ⟨(Nat.le_trans (m := 14) (Nat.le_of_ble_eq_true rfl) hRf), (Nat.le_trans (m := 339) (Nat.le_of_ble_eq_true rfl) hRl)⟩ hP hD hK hS hA hB cW_0 rfl rfl hl.1 (Nat.le_of_ble_eq_true rfl) ⟨by omega, by omega⟩ dL_law_434 (fun x61 σ60 H locs hok hz hP hD hS => ?_)
                          rw [lW2_c] at hP hD
                          obtain ⟨σ62, eσ62⟩ : ∃ z : FS, z = mrg σ60 σ59 := ⟨_, rfl⟩
                          rw [← eσ62] at hP hD
                          have hok := hok σ62 eσ62
                          refine lv_iconst (v := 0) hx hb dL_law_437 (by decide) ?_
                          rw [lW2_mill] at hP hD
                          refine zVi (mG o u ga σ62) (mN u cJ σ62 ++ pX cI ta pa pn σ62) (As := [.int x61, .int 0]) (cw := cW o u cI cZ cJ 83) (ci := 8) S (v_X8_with l D cI cZ cJ o u 83 ra ga σ62 x61 0 _ H.size hok) mi_X8_with kw_3_162 rfl rfl ⟨(Nat.le_trans (m := 14) (Nat.le_of_ble_eq_true rfl) hRf), (Nat.le_trans (m := 339) (Nat.le_of_ble_eq_true rfl) hRl)⟩ hP hD hK hS hA hB cW_0 rfl rfl hl.1 (Nat.le_of_ble_eq_true rfl) ⟨by omega, by omega⟩ dL_law_438 (fun x64 σ63 H locs hok hz hP hD hS => ?_)
                          rw [lW2_c] at hP hD
                          obtain ⟨σ65, eσ65⟩ : ∃ z : FS, z = mrg σ63 σ62 := ⟨_, rfl⟩
                          rw [← eσ65] at hP hD
                          have hok := hok σ65 eσ65
                          refine lv_iload hx hb dL_law_441 (lv_at hl 2 rfl) ?_
                          refine lv_icmp_ne (tgt := 463) hx hb dL_law_443 (by decide) (fun c_443 => ?_) (fun c_443 => ?_)
                          · have hok := hok.2 c_443
                            refine lv_iconst (v := 0) hx hb dL_law_463 (by decide) ?_
                            exact False.elim hok
                          · have hok := hok.1 c_443
                            refine lv_aload_n hx hb dL_law_446 rfl (lv_at hl 11 rfl) ?_
                            refine lv_bipush (v := 6) hx hb dL_law_447 (by decide) ?_
                            refine lv_iconst (v := 0) hx hb dL_law_449 (by decide) ?_
                            rw [lW2_mill] at hP hD
                            refine zVi (mG o u ga σ65) (mN u cJ σ65 ++ pX cI ta pa pn σ65) (As := [.int 6, .int 0]) (cw := cW o u cI cZ cJ 83) (ci := 8) S (v_X8_with l D cI cZ cJ o u 83 ra ga σ65 6 0 _ H.size hok) mi_X8_with kw_3_162 rfl rfl ⟨(Nat.le_trans (m := 14) (Nat.le_of_ble_eq_true rfl) hRf), (Nat.le_trans (m := 339) (Nat.le_of_ble_eq_true rfl) hRl)⟩ hP hD hK hS hA hB cW_0 rfl rfl hl.1 (Nat.le_of_ble_eq_true rfl) ⟨by omega, by omega⟩ dL_law_450 (fun x67 σ66 H locs hok hz hP hD hS => ?_)
                            rw [lW2_c] at hP hD
                            obtain ⟨σ68, eσ68⟩ : ∃ z : FS, z = mrg σ66 σ65 := ⟨_, rfl⟩
                            rw [← eσ68] at hP hD
                            have hok := hok σ68 eσ68
                            refine lv_aload_n hx hb dL_law_453 rfl (lv_at hl 11 rfl) ?_
                            refine lv_bipush (v := 7) hx hb dL_law_454 (by decide) ?_
                            refine lv_iconst (v := 0) hx hb dL_law_456 (by decide) ?_
                            rw [lW2_mill] at hP hD
                            refine zVi (mG o u ga σ68) (mN u cJ σ68 ++ pX cI ta pa pn σ68) (As := [.int 7, .int 0]) (cw := cW o u cI cZ cJ 83) (ci := 8) S (v_X8_with l D cI cZ cJ o u 83 ra ga σ68 7 0 _ H.size hok) mi_X8_with kw_3_162 rfl rfl ⟨(Nat.le_trans (m := 14) (Nat.le_of_ble_eq_true rfl) hRf), (Nat.le_trans (m := 339) (Nat.le_of_ble_eq_true rfl) hRl)⟩ hP hD hK hS hA hB cW_0 rfl rfl hl.1 (Nat.le_of_ble_eq_true rfl) ⟨by omega, by omega⟩ dL_law_457 (fun x70 σ69 H locs hok hz hP hD hS => ?_)
                            rw [lW2_c] at hP hD
                            obtain ⟨σ71, eσ71⟩ : ∃ z : FS, z = mrg σ69 σ68 := ⟨_, rfl⟩
                            rw [← eσ71] at hP hD
                            have hok := hok σ71 eσ71
                            refine lv_icmp_ge (tgt := 465) hx hb dL_law_460 (by decide) (fun c_460 => ?_) (fun c_460 => ?_)
                            · have hok := hok.1 c_460
                              refine lv_iinc (v := l11_0 + 1) (lv' := [(11, .int (l11_0 + 1)), (15, .int x55), (14, .int x56), (13, .int x48), (12, .int x46), (9, .long x40), (8, .ref pa), (7, .int x30), (6, .ref ta), (5, .int x21), (4, .int x3), (3, .ref o), (2, .ref (u 87)), (1, .int tm), (0, .ref b)]) hx hb dL_law_465 hl (k := 4) rfl rfl (by decide) rfl (fun ls hl => ?_)
                              refine lv_goto (tgt := 195) hx hb dL_law_468 (by decide) ?_
                              exact ih195 σ71 (l11_0 + 1) H locs ls hok (lv_sub hl [0, 5, 6, 7, 8, 9, 10, 11, 12, 13, 14] rfl) hP hD hS
                            · have hok := hok.2 c_460
                              refine lv_iconst (v := 0) hx hb dL_law_463 (by decide) ?_
                              exact False.elim hok
                    refine lv_iload hx hb dL_law_212 (lv_at hl 0 rfl) ?_
                    refine lv_aload hx hb dL_law_214 (lv_at hl 5 rfl) ?_
                    refine lv_iconst (v := 3) hx hb dL_law_216 (by decide) ?_
                    refine xiald (t0 := 0) (v := (g σ45 90 3)) S hK hP lW2_90 rfl (vin rfl) rfl dL_law_217 ?_
                    refine lv_icmp_le (tgt := 266) hx hb dL_law_218 (by decide) (fun c_218 => ?_) (fun c_218 => ?_)
                    · have hok := hok.1 c_218
                      refine lv_iload hx hb dL_law_266 (lv_at hl 0 rfl) ?_
                      refine lv_aload hx hb dL_law_268 (lv_at hl 5 rfl) ?_
                      refine lv_iconst (v := 3) hx hb dL_law_270 (by decide) ?_
                      refine xiald (t0 := 0) (v := (g σ45 90 3)) S hK hP lW2_90 rfl (vin rfl) rfl dL_law_271 ?_
                      refine lv_icmp_ge (tgt := 369) hx hb dL_law_272 (by decide) (fun c_272 => ?_) (fun c_272 => ?_)
                      · have hok := hok.1 c_272
                        exact jn σ45 H locs ls hok (lv_sub hl [0, 1, 2, 3, 4, 5, 6, 7, 8, 9, 10, 11] rfl) hP hD hS
                      · have hok := hok.2 c_272
                        refine lv_aload_n hx hb dL_law_275 rfl (lv_at hl 8 rfl) ?_
                        refine lv_iload hx hb dL_law_276 (lv_at hl 0 rfl) ?_
                        refine lv_iconst (v := 1) hx hb dL_law_278 (by decide) ?_
                        refine lv_iconst (v := 4) hx hb dL_law_279 (by decide) ?_
                        rw [lW2_mill] at hP hD
                        refine zVi (mG o u ga σ45) (mN u cJ σ45 ++ pX cI ta pa pn σ45) (As := [.int x46, .int 1, .int 4]) (cw := cW o u cI cZ cJ 83) (ci := 8) S (v_X8_wouldRun l D cI cZ cJ o u 83 ra ga σ45 x46 1 4 _ H.size hok) mi_X8_wouldRun kw_3_155 rfl rfl ⟨(Nat.le_trans (m := 14) (Nat.le_of_ble_eq_true rfl) hRf), (Nat.le_trans (m := 339) (Nat.le_of_ble_eq_true rfl) hRl)⟩ hP hD hK hS hA hB cW_0 rfl rfl hl.1 (Nat.le_of_ble_eq_true rfl) ⟨by omega, by omega⟩ dL_law_280 (fun x73 σ72 H locs hok hz hP hD hS => ?_)
                        rw [lW2_c] at hP hD
                        obtain ⟨σ74, eσ74⟩ : ∃ z : FS, z = mrg σ72 σ45 := ⟨_, rfl⟩
                        rw [← eσ74] at hP hD
                        have hok := hok σ74 eσ74
                        refine lv_istore (lv' := [(13, .int x73), (12, .int x46), (11, .int l11_0), (9, .long x40), (8, .ref pa), (7, .int x30), (6, .ref ta), (5, .int x21), (4, .int x3), (3, .ref o), (2, .ref (u 87)), (1, .int tm), (0, .ref b)]) hx hb dL_law_283 hl (by decide) rfl (fun ls hl => ?_)
                        refine lv_aload_n hx hb dL_law_285 rfl (lv_at hl 9 rfl) ?_
                        refine lv_iload hx hb dL_law_286 (lv_at hl 1 rfl) ?_
                        refine lv_iconst (v := 1) hx hb dL_law_288 (by decide) ?_
                        refine lv_iconst (v := 0) hx hb dL_law_289 (by decide) ?_
                        rw [lW2_mill] at hP hD
                        refine zVi (mG o u ga σ74) (mN u cJ σ74 ++ pX cI ta pa pn σ74) (As := [.int x46, .int 1, .int 0]) (cw := cW o u cI cZ cJ 83) (ci := 8) S (v_X8_wouldRun l D cI cZ cJ o u 83 ra ga σ74 x46 1 0 _ H.size hok) mi_X8_wouldRun kw_3_155 rfl rfl ⟨(Nat.le_trans (m := 14) (Nat.le_of_ble_eq_true rfl) hRf), (Nat.le_trans (m := 339) (Nat.le_of_ble_eq_true rfl) hRl)⟩ hP hD hK hS hA hB cW_0 rfl rfl hl.1 (Nat.le_of_ble_eq_true rfl) ⟨by omega, by omega⟩ dL_law_290 (fun x76 σ75 H locs hok hz hP hD hS => ?_)
                        rw [lW2_c] at hP hD
                        obtain ⟨σ77, eσ77⟩ : ∃ z : FS, z = mrg σ75 σ74 := ⟨_, rfl⟩
                        rw [← eσ77] at hP hD
                        have hok := hok σ77 eσ77
                        refine lv_bipush (v := 6) hx hb dL_law_293 (by decide) ?_
                        refine lv_icmp_ne (tgt := 367) hx hb dL_law_295 (by decide) (fun c_295 => ?_) (fun c_295 => ?_)
                        · have hok := hok.2 c_295
                          refine lv_iconst (v := 0) hx hb dL_law_367 (by decide) ?_
                          exact False.elim hok
                        · have hok := hok.1 c_295
                          refine lv_aload_n hx hb dL_law_298 rfl (lv_at hl 9 rfl) ?_
                          refine lv_iload hx hb dL_law_299 (lv_at hl 1 rfl) ?_
                          refine lv_iconst (v := 1) hx hb dL_law_301 (by decide) ?_
                          refine lv_iconst (v := 3) hx hb dL_law_302 (by decide) ?_
                          rw [lW2_mill] at hP hD
                          refine zVi (mG o u ga σ77) (mN u cJ σ77 ++ pX cI ta pa pn σ77) (As := [.int x46, .int 1, .int 3]) (cw := cW o u cI cZ cJ 83) (ci := 8) S (v_X8_wouldRun l D cI cZ cJ o u 83 ra ga σ77 x46 1 3 _ H.size hok) mi_X8_wouldRun kw_3_155 rfl rfl ⟨(Nat.le_trans (m := 14) (Nat.le_of_ble_eq_true rfl) hRf), (Nat.le_trans (m := 339) (Nat.le_of_ble_eq_true rfl) hRl)⟩ hP hD hK hS hA hB cW_0 rfl rfl hl.1 (Nat.le_of_ble_eq_true rfl) ⟨by omega, by omega⟩ dL_law_303 (fun x79 σ78 H locs hok hz hP hD hS => ?_)
                          rw [lW2_c] at hP hD
                          obtain ⟨σ80, eσ80⟩ : ∃ z : FS, z = mrg σ78 σ77 := ⟨_, rfl⟩
                          rw [← eσ80] at hP hD
                          have hok := hok σ80 eσ80
                          refine lv_iload hx hb dL_law_306 (lv_at hl 1 rfl) ?_
                          refine lv_icmp_ne (tgt := 367) hx hb dL_law_308 (by decide) (fun c_308 => ?_) (fun c_308 => ?_)
                          · have hok := hok.2 c_308
                            refine lv_iconst (v := 0) hx hb dL_law_367 (by decide) ?_
                            exact False.elim hok
                          · have hok := hok.1 c_308
                            refine lv_iload hx hb dL_law_311 (lv_at hl 0 rfl) ?_
                            refine lv_aload hx hb dL_law_313 (lv_at hl 6 rfl) ?_
                            refine lv_iconst (v := 4) hx hb dL_law_315 (by decide) ?_
                            refine xiald (t0 := 0) (v := (g σ80 90 4)) S hK hP lW2_90 rfl (vin rfl) rfl dL_law_316 ?_
                            refine lv_icmp_gt (tgt := 367) hx hb dL_law_317 (by decide) (fun c_317 => ?_) (fun c_317 => ?_)
                            · have hok := hok.1 c_317
                              refine lv_iconst (v := 0) hx hb dL_law_367 (by decide) ?_
                              exact False.elim hok
                            · have hok := hok.2 c_317
                              refine lv_iload hx hb dL_law_320 (lv_at hl 0 rfl) ?_
                              refine lv_if_le (tgt := 346) hx hb dL_law_322 (by decide) (fun c_322 => ?_) (fun c_322 => ?_)
                              · have hok := hok.1 c_322
                                refine lv_iload hx hb dL_law_346 (lv_at hl 0 rfl) ?_
                                refine lv_iload hx hb dL_law_348 (lv_at hl 5 rfl) ?_
                                refine lv_icmp_ge (tgt := 369) hx hb dL_law_350 (by decide) (fun c_350 => ?_) (fun c_350 => ?_)
                                · have hok := hok.1 c_350
                                  exact jn σ80 H locs ls hok (lv_sub hl [1, 2, 3, 4, 5, 6, 7, 8, 9, 10, 11, 12] rfl) hP hD hS
                                · have hok := hok.2 c_350
                                  refine lv_aload hx hb dL_law_353 (lv_at hl 4 rfl) ?_
                                  refine lv_iconst (v := 3) hx hb dL_law_355 (by decide) ?_
                                  refine lv_iload hx hb dL_law_356 (lv_at hl 0 rfl) ?_
                                  refine ximul (v := 3 * x73) S dL_law_358 rfl ?_
                                  refine lv_iconst (v := 1) hx hb dL_law_359 (by decide) ?_
                                  refine xiadd (v := (3 * x73) + 1) S dL_law_360 rfl ?_
                                  have h_361 := hok.1
                                  have hok := hok.2
                                  refine xiald (t0 := 0) (v := (g σ80 91 ((3 * x73) + 1))) S hK hP lW2_91 rfl h_361 rfl dL_law_361 ?_
                                  refine lv_iload hx hb dL_law_362 (lv_at hl 1 rfl) ?_
                                  refine lv_icmp_gt (tgt := 369) hx hb dL_law_364 (by decide) (fun c_364 => ?_) (fun c_364 => ?_)
                                  · have hok := hok.1 c_364
                                    exact jn σ80 H locs ls hok (lv_sub hl [1, 2, 3, 4, 5, 6, 7, 8, 9, 10, 11, 12] rfl) hP hD hS
                                  · have hok := hok.2 c_364
                                    refine lv_iconst (v := 0) hx hb dL_law_367 (by decide) ?_
                                    exact False.elim hok
                              · have hok := hok.2 c_322
                                refine lv_iload hx hb dL_law_325 (lv_at hl 0 rfl) ?_
                                refine lv_iload hx hb dL_law_327 (lv_at hl 5 rfl) ?_
                                refine lv_icmp_gt (tgt := 346) hx hb dL_law_329 (by decide) (fun c_329 => ?_) (fun c_329 => ?_)
                                · have hok := hok.1 c_329
                                  refine lv_iload hx hb dL_law_346 (lv_at hl 0 rfl) ?_
                                  refine lv_iload hx hb dL_law_348 (lv_at hl 5 rfl) ?_
                                  refine lv_icmp_ge (tgt := 369) hx hb dL_law_350 (by decide) (fun c_350 => ?_) (fun c_350 => ?_)
                                  · have hok := hok.1 c_350
                                    exact jn σ80 H locs ls hok (lv_sub hl [1, 2, 3, 4, 5, 6, 7, 8, 9, 10, 11, 12] rfl) hP hD hS
                                  · have hok := hok.2 c_350
                                    refine lv_aload hx hb dL_law_353 (lv_at hl 4 rfl) ?_
                                    refine lv_iconst (v := 3) hx hb dL_law_355 (by decide) ?_
                                    refine lv_iload hx hb dL_law_356 (lv_at hl 0 rfl) ?_
                                    refine ximul (v := 3 * x73) S dL_law_358 rfl ?_
                                    refine lv_iconst (v := 1) hx hb dL_law_359 (by decide) ?_
                                    refine xiadd (v := (3 * x73) + 1) S dL_law_360 rfl ?_
                                    have h_361 := hok.1
                                    have hok := hok.2
                                    refine xiald (t0 := 0) (v := (g σ80 91 ((3 * x73) + 1))) S hK hP lW2_91 rfl h_361 rfl dL_law_361 ?_
                                    refine lv_iload hx hb dL_law_362 (lv_at hl 1 rfl) ?_
                                    refine lv_icmp_gt (tgt := 369) hx hb dL_law_364 (by decide) (fun c_364 => ?_) (fun c_364 => ?_)
                                    · have hok := hok.1 c_364
                                      exact jn σ80 H locs ls hok (lv_sub hl [1, 2, 3, 4, 5, 6, 7, 8, 9, 10, 11, 12] rfl) hP hD hS
                                    · have hok := hok.2 c_364
                                      refine lv_iconst (v := 0) hx hb dL_law_367 (by decide) ?_
                                      exact False.elim hok
                                · have hok := hok.2 c_329
                                  refine lv_aload hx hb dL_law_332 (lv_at hl 4 rfl) ?_
                                  refine lv_iconst (v := 3) hx hb dL_law_334 (by decide) ?_
                                  refine lv_iload hx hb dL_law_335 (lv_at hl 0 rfl) ?_
                                  refine ximul (v := 3 * x73) S dL_law_337 rfl ?_
                                  refine lv_iconst (v := 2) hx hb dL_law_338 (by decide) ?_
                                  refine xisub (v := (3 * x73) - 2) S dL_law_339 rfl ?_
                                  have h_340 := hok.1
                                  have hok := hok.2
                                  refine xiald (t0 := 0) (v := (g σ80 91 ((3 * x73) - 2))) S hK hP lW2_91 rfl h_340 rfl dL_law_340 ?_
                                  refine lv_iload hx hb dL_law_341 (lv_at hl 1 rfl) ?_
                                  refine lv_icmp_gt (tgt := 367) hx hb dL_law_343 (by decide) (fun c_343 => ?_) (fun c_343 => ?_)
                                  · have hok := hok.1 c_343
                                    refine lv_iconst (v := 0) hx hb dL_law_367 (by decide) ?_
                                    exact False.elim hok
                                  · have hok := hok.2 c_343
                                    refine lv_iload hx hb dL_law_346 (lv_at hl 0 rfl) ?_
                                    refine lv_iload hx hb dL_law_348 (lv_at hl 5 rfl) ?_
                                    refine lv_icmp_ge (tgt := 369) hx hb dL_law_350 (by decide) (fun c_350 => ?_) (fun c_350 => ?_)
                                    · have hok := hok.1 c_350
                                      exact jn σ80 H locs ls hok (lv_sub hl [1, 2, 3, 4, 5, 6, 7, 8, 9, 10, 11, 12] rfl) hP hD hS
                                    · have hok := hok.2 c_350
                                      refine lv_aload hx hb dL_law_353 (lv_at hl 4 rfl) ?_
                                      refine lv_iconst (v := 3) hx hb dL_law_355 (by decide) ?_
                                      refine lv_iload hx hb dL_law_356 (lv_at hl 0 rfl) ?_
                                      refine ximul (v := 3 * x73) S dL_law_358 rfl ?_
                                      refine lv_iconst (v := 1) hx hb dL_law_359 (by decide) ?_
                                      refine xiadd (v := (3 * x73) + 1) S dL_law_360 rfl ?_
                                      have h_361 := hok.1
                                      have hok := hok.2
                                      refine xiald (t0 := 0) (v := (g σ80 91 ((3 * x73) + 1))) S hK hP lW2_91 rfl h_361 rfl dL_law_361 ?_
                                      refine lv_iload hx hb dL_law_362 (lv_at hl 1 rfl) ?_
                                      refine lv_icmp_gt (tgt := 369) hx hb dL_law_364 (by decide) (fun c_364 => ?_) (fun c_364 => ?_)
                                      · have hok := hok.1 c_364
                                        exact jn σ80 H locs ls hok (lv_sub hl [1, 2, 3, 4, 5, 6, 7, 8, 9, 10, 11, 12] rfl) hP hD hS
                                      · have hok := hok.2 c_364
                                        refine lv_iconst (v := 0) hx hb dL_law_367 (by decide) ?_
                                        exact False.elim hok
                    · have hok := hok.2 c_218
                      refine lv_iconst (v := 0) hx hb dL_law_221 (by decide) ?_
                      refine lv_istore (lv' := [(13, .int 0), (12, .int x46), (11, .int l11_0), (9, .long x40), (8, .ref pa), (7, .int x30), (6, .ref ta), (5, .int x21), (4, .int x3), (3, .ref o), (2, .ref (u 87)), (1, .int tm), (0, .ref b)]) hx hb dL_law_222 hl (by decide) rfl (fun ls hl => ?_)
                      refine W.widen (k := ca + 148) (n := sl + 744) (by omega) (by omega) ?_
                      have lp224 : ∀ (K : FS → Int32 → Prop), (∀ (τ1 : FS) (l13_1 : Int32) (H : Heap) (locs : List Loc) (ls : Array Slot), K τ1 l13_1 → lv_has ls 16 [(13, .int l13_1), (12, .int x46), (11, .int l11_0), (9, .long x40), (8, .ref pa), (7, .int x30), (6, .ref ta), (5, .int x21), (4, .int x3), (3, .ref o), (2, .ref (u 87)), (1, .int tm), (0, .ref b)] → va_P D vwCl (lW2 o u cI cZ cJ ta pa pn 83 ga τ1) H → va_D A (lW2 o u cI cZ cJ ta pa pn 83 ga τ1) → va_S A s.heap H locs → W p l e R s m args below meth c H locs (ca + 148) (sl + 744) Q (F0 m 263 ls [])) → ∀ (n1 : Nat) (τ1 : FS) (l13_1 : Int32) (H : Heap) (locs : List Loc) (ls : Array Slot), wp_law_224 ga pn l11_0 x21 x3 x30 x40 x46 K n1 τ1 l13_1 → lv_has ls 16 [(13, .int l13_1), (12, .int x46), (11, .int l11_0), (9, .long x40), (8, .ref pa), (7, .int x30), (6, .ref ta), (5, .int x21), (4, .int x3), (3, .ref o), (2, .ref (u 87)), (1, .int tm), (0, .ref b)] → va_P D vwCl (lW2 o u cI cZ cJ ta pa pn 83 ga τ1) H → va_D A (lW2 o u cI cZ cJ ta pa pn 83 ga τ1) → va_S A s.heap H locs → W p l e R s m args below meth c H locs (ca + 148) (sl + 744) Q (F0 m 224 ls []) := by
                        intro K hk n1
                        induction n1 with
                        | zero => intro τ1 l13_1 H locs ls hok; exact False.elim hok
                        | succ n1 ih224 =>
                          intro τ1 l13_1 H locs ls hok hl hP hD hS
                          refine lv_iload hx hb dL_law_224 (lv_at hl 0 rfl) ?_
                          refine lv_bipush (v := 10) hx hb dL_law_226 (by decide) ?_
                          refine lv_icmp_ge (tgt := 263) hx hb dL_law_228 (by decide) (fun c_228 => ?_) (fun c_228 => ?_)
                          · have hok := hok.1 c_228
                            exact hk τ1 l13_1 H locs ls hok (lv_sub hl [0, 1, 2, 3, 4, 5, 6, 7, 8, 9, 10, 11, 12] rfl) hP hD hS
                          · have hok := hok.2 c_228
                            refine lv_aload_n hx hb dL_law_231 rfl (lv_at hl 9 rfl) ?_
                            refine lv_iload hx hb dL_law_232 (lv_at hl 1 rfl) ?_
                            refine lv_iconst (v := 1) hx hb dL_law_234 (by decide) ?_
                            refine lv_iload hx hb dL_law_235 (lv_at hl 0 rfl) ?_
                            rw [lW2_mill] at hP hD
                            refine zVi (mG o u ga τ1) (mN u cJ τ1 ++ pX cI ta pa pn τ1) (As := [.int x46, .int 1, .int l13_1]) (cw := cW o u cI cZ cJ 83) (ci := 8) S (v_X8_wouldRun l D cI cZ cJ o u 83 ra ga τ1 x46 1 l13_1 _ H.size hok) mi_X8_wouldRun kw_3_155 rfl rfl ⟨(Nat.le_trans (m := 14) (Nat.le_of_ble_eq_true rfl) hRf), (Nat.le_trans (m := 339) (Nat.le_of_ble_eq_true rfl) hRl)⟩ hP hD hK hS hA hB cW_0 rfl rfl hl.1 (Nat.le_of_ble_eq_true rfl) ⟨by omega, by omega⟩ dL_law_237 (fun x82 σ81 H locs hok hz hP hD hS => ?_)
                            rw [lW2_c] at hP hD
                            obtain ⟨σ83, eσ83⟩ : ∃ z : FS, z = mrg σ81 τ1 := ⟨_, rfl⟩
                            rw [← eσ83] at hP hD
                            have hok := hok σ83 eσ83
                            refine lv_aload hx hb dL_law_240 (lv_at hl 6 rfl) ?_
                            refine lv_iload hx hb dL_law_242 (lv_at hl 0 rfl) ?_
                            have h_244 := hok.1
                            have hok := hok.2
                            refine xiald (t0 := 0) (v := (g σ83 90 l13_1)) S hK hP lW2_90 rfl h_244 rfl dL_law_244 ?_
                            refine lv_icmp_eq (tgt := 257) hx hb dL_law_245 (by decide) (fun c_245 => ?_) (fun c_245 => ?_)
                            · have hok := hok.1 c_245
                              refine lv_iinc (v := l13_1 + 1) (lv' := [(13, .int (l13_1 + 1)), (12, .int x46), (11, .int l11_0), (9, .long x40), (8, .ref pa), (7, .int x30), (6, .ref ta), (5, .int x21), (4, .int x3), (3, .ref o), (2, .ref (u 87)), (1, .int tm), (0, .ref b)]) hx hb dL_law_257 hl (k := 0) rfl rfl (by decide) rfl (fun ls hl => ?_)
                              refine lv_goto (tgt := 224) hx hb dL_law_260 (by decide) ?_
                              exact ih224 σ83 (l13_1 + 1) H locs ls hok (lv_sub hl [0, 1, 2, 3, 4, 5, 6, 7, 8, 9, 10, 11, 12] rfl) hP hD hS
                            · have hok := hok.2 c_245
                              refine lv_iload hx hb dL_law_248 (lv_at hl 7 rfl) ?_
                              refine lv_bipush (v := 6) hx hb dL_law_250 (by decide) ?_
                              refine lv_icmp_eq (tgt := 257) hx hb dL_law_252 (by decide) (fun c_252 => ?_) (fun c_252 => ?_)
                              · have hok := hok.1 c_252
                                refine lv_iinc (v := l13_1 + 1) (lv' := [(13, .int (l13_1 + 1)), (12, .int x46), (11, .int l11_0), (9, .long x40), (8, .ref pa), (7, .int x30), (6, .ref ta), (5, .int x21), (4, .int x3), (3, .ref o), (2, .ref (u 87)), (1, .int tm), (0, .ref b)]) hx hb dL_law_257 hl (k := 0) rfl rfl (by decide) rfl (fun ls hl => ?_)
                                refine lv_goto (tgt := 224) hx hb dL_law_260 (by decide) ?_
                                exact ih224 σ83 (l13_1 + 1) H locs ls hok (lv_sub hl [0, 1, 2, 3, 4, 5, 6, 7, 8, 9, 10, 11, 12] rfl) hP hD hS
                              · have hok := hok.2 c_252
                                refine lv_iconst (v := 0) hx hb dL_law_255 (by decide) ?_
                                exact False.elim hok
                      refine lp224 _ ?_ FUEL σ45 0 _ _ _ hok (lv_sub hl [0, 1, 2, 3, 4, 5, 6, 7, 8, 9, 10, 11, 12] rfl) hP hD hS
                      intro σ84 x85 H locs ls hok hl hP hD hS
                      refine lv_goto (tgt := 369) hx hb dL_law_263 (by decide) ?_
                      exact jn σ84 H locs ls hok (lv_sub hl [1, 2, 3, 4, 5, 6, 7, 8, 9, 10, 11, 12] rfl) hP hD hS
              refine lp195 _ ?_ FUEL σ41 0 _ _ _ hok (lv_sub hl [0, 1, 2, 3, 4, 5, 6, 7, 8, 9, 10] rfl) hP hD hS
              intro σ86 x87 H locs ls hok hl hP hD hS
              refine lv_aload_n hx hb dL_law_471 rfl (lv_at hl 7 rfl) ?_
              rw [lW2_mill] at hP hD
              refine zVl (mG o u ga σ86) (mN u cJ σ86 ++ pX cI ta pa pn σ86) (As := []) (cw := cW o u cI cZ cJ 83) (ci := 8) S (v_X8_digest l D cI cZ cJ o u 83 ra ga σ86 _ H.size hok) mi_X8_digest kw_3_169 rfl rfl ⟨(Nat.le_trans (m := 14) (Nat.le_of_ble_eq_true rfl) hRf), (Nat.le_trans (m := 339) (Nat.le_of_ble_eq_true rfl) hRl)⟩ hP hD hK hS hA hB cW_0 rfl rfl hl.1 (Nat.le_of_ble_eq_true rfl) ⟨by omega, by omega⟩ dL_law_472 (fun x89 σ88 H locs hok hz hP hD hS => ?_)
              rw [lW2_c] at hP hD
              obtain ⟨σ90, eσ90⟩ : ∃ z : FS, z = mrg σ88 σ86 := ⟨_, rfl⟩
              rw [← eσ90] at hP hD
              have hok := hok σ90 eσ90
              refine lv_lload hx hb dL_law_475 (lv_at hl 1 rfl) ?_
              have q_477 := hok.1
              have hok := hok.2
              refine xlcmp (v := 0) S dL_law_477 (by rw [q_477]; exact cmp_self) ?_
              refine lv_if_ne (tgt := 490) hx hb dL_law_478 (by decide) (fun c => absurd c (by decide)) (fun _ => ?_)
              refine lv_aload_n hx hb dL_law_481 rfl (lv_at hl 7 rfl) ?_
              rw [lW2_mill] at hP hD
              refine zVi (mG o u ga σ90) (mN u cJ σ90 ++ pX cI ta pa pn σ90) (As := []) (cw := cW o u cI cZ cJ 79) (ci := 8) S (v_X8_run l D cI cZ cJ o u 83 ra ga σ90 _ H.size hok) mi_X8_run kw_2_198 rfl rfl ⟨(Nat.le_trans (m := 14) (Nat.le_of_ble_eq_true rfl) hRf), (Nat.le_trans (m := 339) (Nat.le_of_ble_eq_true rfl) hRl)⟩ hP hD hK hS hA hB cW_0 rfl rfl hl.1 (Nat.le_of_ble_eq_true rfl) ⟨by omega, by omega⟩ dL_law_482 (fun x92 σ91 H locs hok hz hP hD hS => ?_)
              rw [lW2_c] at hP hD
              obtain ⟨σ93, eσ93⟩ : ∃ z : FS, z = mrg σ91 σ90 := ⟨_, rfl⟩
              rw [← eσ93] at hP hD
              have hok := hok σ93 eσ93
              refine lv_iload hx hb dL_law_485 (lv_at hl 5 rfl) ?_
              refine lv_icmp_eq (tgt := 492) hx hb dL_law_487 (by decide) (fun c_487 => ?_) (fun c_487 => ?_)
              · have hok := hok.1 c_487
                refine lv_iconst (v := 0) hx hb dL_law_492 (by decide) ?_
                refine lv_istore (lv' := [(11, .int 0), (9, .long x40), (8, .ref pa), (7, .int x30), (6, .ref ta), (5, .int x21), (4, .int x3), (3, .ref o), (2, .ref (u 87)), (1, .int tm), (0, .ref b)]) hx hb dL_law_493 hl (by decide) rfl (fun ls hl => ?_)
                refine W.widen (k := ca + 148) (n := sl + 744) (by omega) (by omega) ?_
                have lp495 : ∀ (K : FS → Int32 → Prop), (∀ (τ0 : FS) (l11_0 : Int32) (H : Heap) (locs : List Loc) (ls : Array Slot), K τ0 l11_0 → lv_has ls 16 [(11, .int l11_0), (9, .long x40), (8, .ref pa), (7, .int x30), (6, .ref ta), (5, .int x21), (4, .int x3), (3, .ref o), (2, .ref (u 87)), (1, .int tm), (0, .ref b)] → va_P D vwCl (lW2 o u cI cZ cJ ta pa pn 79 ga τ0) H → va_D A (lW2 o u cI cZ cJ ta pa pn 79 ga τ0) → va_S A s.heap H locs → W p l e R s m args below meth c H locs (ca + 148) (sl + 744) Q (F0 m 524 ls [])) → ∀ (n0 : Nat) (τ0 : FS) (l11_0 : Int32) (H : Heap) (locs : List Loc) (ls : Array Slot), wp_law_495 ga pn x21 x3 x30 x40 K n0 τ0 l11_0 → lv_has ls 16 [(11, .int l11_0), (9, .long x40), (8, .ref pa), (7, .int x30), (6, .ref ta), (5, .int x21), (4, .int x3), (3, .ref o), (2, .ref (u 87)), (1, .int tm), (0, .ref b)] → va_P D vwCl (lW2 o u cI cZ cJ ta pa pn 79 ga τ0) H → va_D A (lW2 o u cI cZ cJ ta pa pn 79 ga τ0) → va_S A s.heap H locs → W p l e R s m args below meth c H locs (ca + 148) (sl + 744) Q (F0 m 495 ls []) := by
                  intro K hk n0
                  induction n0 with
                  | zero => intro τ0 l11_0 H locs ls hok; exact False.elim hok
                  | succ n0 ih495 =>
                    intro τ0 l11_0 H locs ls hok hl hP hD hS
                    refine lv_iload hx hb dL_law_495 (lv_at hl 0 rfl) ?_
                    refine lv_bipush (v := 10) hx hb dL_law_497 (by decide) ?_
                    refine lv_icmp_ge (tgt := 524) hx hb dL_law_499 (by decide) (fun c_499 => ?_) (fun c_499 => ?_)
                    · have hok := hok.1 c_499
                      exact hk τ0 l11_0 H locs ls hok (lv_sub hl [0, 1, 2, 3, 4, 5, 6, 7, 8, 9, 10] rfl) hP hD hS
                    · have hok := hok.2 c_499
                      refine lv_aload_n hx hb dL_law_502 rfl (lv_at hl 7 rfl) ?_
                      refine lv_iload hx hb dL_law_503 (lv_at hl 0 rfl) ?_
                      rw [lW2_mill] at hP hD
                      refine zVi (mG o u ga τ0) (mN u cJ τ0 ++ pX cI ta pa pn τ0) (As := [.int l11_0]) (cw := cW o u cI cZ cJ 79) (ci := 8) S (v_X8_ofRun l D cI cZ cJ o u 79 ra ga τ0 l11_0 _ H.size hok) mi_X8_ofRun kw_3_131 rfl rfl ⟨(Nat.le_trans (m := 14) (Nat.le_of_ble_eq_true rfl) hRf), (Nat.le_trans (m := 339) (Nat.le_of_ble_eq_true rfl) hRl)⟩ hP hD hK hS hA hB cW_0 rfl rfl hl.1 (Nat.le_of_ble_eq_true rfl) ⟨by omega, by omega⟩ dL_law_505 (fun x95 σ94 H locs hok hz hP hD hS => ?_)
                      rw [lW2_c] at hP hD
                      obtain ⟨σ96, eσ96⟩ : ∃ z : FS, z = mrg σ94 τ0 := ⟨_, rfl⟩
                      rw [← eσ96] at hP hD
                      have hok := hok σ96 eσ96
                      refine lv_aload hx hb dL_law_508 (lv_at hl 4 rfl) ?_
                      refine lv_iload hx hb dL_law_510 (lv_at hl 0 rfl) ?_
                      have h_512 := hok.1
                      have hok := hok.2
                      refine xiald (t0 := 0) (v := (g σ96 90 l11_0)) S hK hP lW2_90 rfl h_512 rfl dL_law_512 ?_
                      refine lv_icmp_eq (tgt := 518) hx hb dL_law_513 (by decide) (fun c_513 => ?_) (fun c_513 => ?_)
                      · have hok := hok.1 c_513
                        refine lv_iinc (v := l11_0 + 1) (lv' := [(11, .int (l11_0 + 1)), (9, .long x40), (8, .ref pa), (7, .int x30), (6, .ref ta), (5, .int x21), (4, .int x3), (3, .ref o), (2, .ref (u 87)), (1, .int tm), (0, .ref b)]) hx hb dL_law_518 hl (k := 0) rfl rfl (by decide) rfl (fun ls hl => ?_)
                        refine lv_goto (tgt := 495) hx hb dL_law_521 (by decide) ?_
                        exact ih495 σ96 (l11_0 + 1) H locs ls hok (lv_sub hl [0, 1, 2, 3, 4, 5, 6, 7, 8, 9, 10] rfl) hP hD hS
                      · have hok := hok.2 c_513
                        refine lv_iconst (v := 0) hx hb dL_law_516 (by decide) ?_
                        exact False.elim hok
                refine lp495 _ ?_ FUEL σ93 0 _ _ _ hok (lv_sub hl [0, 1, 2, 3, 4, 5, 6, 7, 8, 9, 10] rfl) hP hD hS
                intro σ97 x98 H locs ls hok hl hP hD hS
                refine lv_iconst (v := 0) hx hb dL_law_524 (by decide) ?_
                refine lv_istore (lv' := [(11, .int 0), (9, .long x40), (8, .ref pa), (7, .int x30), (6, .ref ta), (5, .int x21), (4, .int x3), (3, .ref o), (2, .ref (u 87)), (1, .int tm), (0, .ref b)]) hx hb dL_law_525 hl (by decide) rfl (fun ls hl => ?_)
                refine W.widen (k := ca + 148) (n := sl + 744) (by omega) (by omega) ?_
                have lp527 : ∀ (K : FS → Int32 → Prop), (∀ (τ0 : FS) (l11_0 : Int32) (H : Heap) (locs : List Loc) (ls : Array Slot), K τ0 l11_0 → lv_has ls 16 [(11, .int l11_0), (9, .long x40), (8, .ref pa), (7, .int x30), (6, .ref ta), (5, .int x21), (4, .int x3), (3, .ref o), (2, .ref (u 87)), (1, .int tm), (0, .ref b)] → va_P D vwCl (lW2 o u cI cZ cJ ta pa pn 79 ga τ0) H → va_D A (lW2 o u cI cZ cJ ta pa pn 79 ga τ0) → va_S A s.heap H locs → W p l e R s m args below meth c H locs (ca + 148) (sl + 744) Q (F0 m 563 ls [])) → ∀ (n0 : Nat) (τ0 : FS) (l11_0 : Int32) (H : Heap) (locs : List Loc) (ls : Array Slot), wp_law_527 ga pn x21 x3 x30 x40 K n0 τ0 l11_0 → lv_has ls 16 [(11, .int l11_0), (9, .long x40), (8, .ref pa), (7, .int x30), (6, .ref ta), (5, .int x21), (4, .int x3), (3, .ref o), (2, .ref (u 87)), (1, .int tm), (0, .ref b)] → va_P D vwCl (lW2 o u cI cZ cJ ta pa pn 79 ga τ0) H → va_D A (lW2 o u cI cZ cJ ta pa pn 79 ga τ0) → va_S A s.heap H locs → W p l e R s m args below meth c H locs (ca + 148) (sl + 744) Q (F0 m 527 ls []) := by
                  intro K hk n0
                  induction n0 with
                  | zero => intro τ0 l11_0 H locs ls hok; exact False.elim hok
                  | succ n0 ih527 =>
                    intro τ0 l11_0 H locs ls hok hl hP hD hS
                    refine lv_iload hx hb dL_law_527 (lv_at hl 0 rfl) ?_
                    refine lv_aload hx hb dL_law_529 (lv_at hl 2 rfl) ?_
                    refine xalen (t0 := 0) (v := nI pn) S hK hP lW2_91 rfl rfl dL_law_531 ?_
                    refine lv_icmp_ge (tgt := 563) hx hb dL_law_532 (by decide) (fun c_532 => ?_) (fun c_532 => ?_)
                    · have hok := hok.1 c_532
                      exact hk τ0 l11_0 H locs ls hok (lv_sub hl [0, 1, 2, 3, 4, 5, 6, 7, 8, 9, 10] rfl) hP hD hS
                    · have hok := hok.2 c_532
                      refine lv_aload_n hx hb dL_law_535 rfl (lv_at hl 7 rfl) ?_
                      refine lv_iload hx hb dL_law_536 (lv_at hl 0 rfl) ?_
                      refine lv_iconst (v := 3) hx hb dL_law_538 (by decide) ?_
                      refine xidiv (v := l11_0 / 3) S dL_law_539 (by decide) rfl ?_
                      refine lv_iload hx hb dL_law_540 (lv_at hl 0 rfl) ?_
                      refine lv_iconst (v := 3) hx hb dL_law_542 (by decide) ?_
                      refine xirem (v := l11_0 - l11_0 / 3 * 3) S dL_law_543 (by decide) rfl ?_
                      rw [lW2_mill] at hP hD
                      refine zVi (mG o u ga τ0) (mN u cJ τ0 ++ pX cI ta pa pn τ0) (As := [.int (l11_0 / 3), .int (l11_0 - l11_0 / 3 * 3)]) (cw := cW o u cI cZ cJ 79) (ci := 8) S (v_X8_printed l D cI cZ cJ o u 79 ra ga τ0 (l11_0 / 3) (l11_0 - l11_0 / 3 * 3) _ H.size hok) mi_X8_printed kw_3_139 rfl rfl ⟨(Nat.le_trans (m := 14) (Nat.le_of_ble_eq_true rfl) hRf), (Nat.le_trans (m := 339) (Nat.le_of_ble_eq_true rfl) hRl)⟩ hP hD hK hS hA hB cW_0 rfl rfl hl.1 (Nat.le_of_ble_eq_true rfl) ⟨by omega, by omega⟩ dL_law_544 (fun x100 σ99 H locs hok hz hP hD hS => ?_)
                      rw [lW2_c] at hP hD
                      obtain ⟨σ101, eσ101⟩ : ∃ z : FS, z = mrg σ99 τ0 := ⟨_, rfl⟩
                      rw [← eσ101] at hP hD
                      have hok := hok σ101 eσ101
                      refine lv_aload hx hb dL_law_547 (lv_at hl 2 rfl) ?_
                      refine lv_iload hx hb dL_law_549 (lv_at hl 0 rfl) ?_
                      have h_551 := hok.1
                      have hok := hok.2
                      refine xiald (t0 := 0) (v := (g σ101 91 l11_0)) S hK hP lW2_91 rfl h_551 rfl dL_law_551 ?_
                      refine lv_icmp_eq (tgt := 557) hx hb dL_law_552 (by decide) (fun c_552 => ?_) (fun c_552 => ?_)
                      · have hok := hok.1 c_552
                        refine lv_iinc (v := l11_0 + 1) (lv' := [(11, .int (l11_0 + 1)), (9, .long x40), (8, .ref pa), (7, .int x30), (6, .ref ta), (5, .int x21), (4, .int x3), (3, .ref o), (2, .ref (u 87)), (1, .int tm), (0, .ref b)]) hx hb dL_law_557 hl (k := 0) rfl rfl (by decide) rfl (fun ls hl => ?_)
                        refine lv_goto (tgt := 527) hx hb dL_law_560 (by decide) ?_
                        exact ih527 σ101 (l11_0 + 1) H locs ls hok (lv_sub hl [0, 1, 2, 3, 4, 5, 6, 7, 8, 9, 10] rfl) hP hD hS
                      · have hok := hok.2 c_552
                        refine lv_iconst (v := 0) hx hb dL_law_555 (by decide) ?_
                        exact False.elim hok
                refine lp527 _ ?_ FUEL σ97 0 _ _ _ hok (lv_sub hl [0, 1, 2, 3, 4, 5, 6, 7, 8, 9, 10] rfl) hP hD hS
                intro σ102 x103 H locs ls hok hl hP hD hS
                refine lv_aload_n hx hb dL_law_563 rfl (lv_at hl 7 rfl) ?_
                refine lv_iconst (v := 5) hx hb dL_law_564 (by decide) ?_
                rw [lW2_mill] at hP hD
                refine zVi (mG o u ga σ102) (mN u cJ σ102 ++ pX cI ta pa pn σ102) (As := [.int 5]) (cw := cW o u cI cZ cJ 79) (ci := 8) S (v_X8_many l D cI cZ cJ o u 79 ra ga σ102 5 _ H.size hok) mi_X8_many kw_3_147 rfl rfl ⟨(Nat.le_trans (m := 14) (Nat.le_of_ble_eq_true rfl) hRf), (Nat.le_trans (m := 339) (Nat.le_of_ble_eq_true rfl) hRl)⟩ hP hD hK hS hA hB cW_0 rfl rfl hl.1 (Nat.le_of_ble_eq_true rfl) ⟨by omega, by omega⟩ dL_law_565 (fun x105 σ104 H locs hok hz hP hD hS => ?_)
                rw [lW2_c] at hP hD
                obtain ⟨σ106, eσ106⟩ : ∃ z : FS, z = mrg σ104 σ102 := ⟨_, rfl⟩
                rw [← eσ106] at hP hD
                have hok := hok σ106 eσ106
                refine lv_istore (lv' := [(11, .int x105), (9, .long x40), (8, .ref pa), (7, .int x30), (6, .ref ta), (5, .int x21), (4, .int x3), (3, .ref o), (2, .ref (u 87)), (1, .int tm), (0, .ref b)]) hx hb dL_law_568 hl (by decide) rfl (fun ls hl => ?_)
                refine lv_iconst (v := 0) hx hb dL_law_570 (by decide) ?_
                refine lv_istore (lv' := [(12, .int 0), (11, .int x105), (9, .long x40), (8, .ref pa), (7, .int x30), (6, .ref ta), (5, .int x21), (4, .int x3), (3, .ref o), (2, .ref (u 87)), (1, .int tm), (0, .ref b)]) hx hb dL_law_571 hl (by decide) rfl (fun ls hl => ?_)
                refine lv_iconst (v := 0) hx hb dL_law_573 (by decide) ?_
                refine lv_istore (lv' := [(13, .int 0), (12, .int 0), (11, .int x105), (9, .long x40), (8, .ref pa), (7, .int x30), (6, .ref ta), (5, .int x21), (4, .int x3), (3, .ref o), (2, .ref (u 87)), (1, .int tm), (0, .ref b)]) hx hb dL_law_574 hl (by decide) rfl (fun ls hl => ?_)
                refine W.widen (k := ca + 148) (n := sl + 744) (by omega) (by omega) ?_
                have lp576 : ∀ (K : FS → Int32 → Int32 → Prop), (∀ (τ0 : FS) (l13_0 : Int32) (l12_0 : Int32) (H : Heap) (locs : List Loc) (ls : Array Slot), K τ0 l13_0 l12_0 → lv_has ls 16 [(13, .int l13_0), (12, .int l12_0), (11, .int x105), (9, .long x40), (8, .ref pa), (7, .int x30), (6, .ref ta), (5, .int x21), (4, .int x3), (3, .ref o), (2, .ref (u 87)), (1, .int tm), (0, .ref b)] → va_P D vwCl (lW2 o u cI cZ cJ ta pa pn 79 ga τ0) H → va_D A (lW2 o u cI cZ cJ ta pa pn 79 ga τ0) → va_S A s.heap H locs → W p l e R s m args below meth c H locs (ca + 148) (sl + 744) Q (F0 m 615 ls [])) → ∀ (n0 : Nat) (τ0 : FS) (l13_0 : Int32) (l12_0 : Int32) (H : Heap) (locs : List Loc) (ls : Array Slot), wp_law_576 ga pn x105 x21 x3 x30 x40 K n0 τ0 l13_0 l12_0 → lv_has ls 16 [(13, .int l13_0), (12, .int l12_0), (11, .int x105), (9, .long x40), (8, .ref pa), (7, .int x30), (6, .ref ta), (5, .int x21), (4, .int x3), (3, .ref o), (2, .ref (u 87)), (1, .int tm), (0, .ref b)] → va_P D vwCl (lW2 o u cI cZ cJ ta pa pn 79 ga τ0) H → va_D A (lW2 o u cI cZ cJ ta pa pn 79 ga τ0) → va_S A s.heap H locs → W p l e R s m args below meth c H locs (ca + 148) (sl + 744) Q (F0 m 576 ls []) := by
                  intro K hk n0
                  induction n0 with
                  | zero => intro τ0 l13_0 l12_0 H locs ls hok; exact False.elim hok
                  | succ n0 ih576 =>
                    intro τ0 l13_0 l12_0 H locs ls hok hl hP hD hS
                    refine lv_iload hx hb dL_law_576 (lv_at hl 0 rfl) ?_
                    refine lv_aload_n hx hb dL_law_578 rfl (lv_at hl 10 rfl) ?_
                    refine xg (ci := 9) S inX9 rfl hK hP lW2_0 3 (by decide) rfl kw_5_232 rfl dL_law_579 ?_
                    refine lv_icmp_ge (tgt := 615) hx hb dL_law_582 (by decide) (fun c_582 => ?_) (fun c_582 => ?_)
                    · have hok := hok.1 c_582
                      exact hk τ0 l13_0 l12_0 H locs ls hok (lv_sub hl [0, 1, 2, 3, 4, 5, 6, 7, 8, 9, 10, 11, 12] rfl) hP hD hS
                    · have hok := hok.2 c_582
                      refine lv_aload_n hx hb dL_law_585 rfl (lv_at hl 9 rfl) ?_
                      refine lv_iload hx hb dL_law_586 (lv_at hl 0 rfl) ?_
                      refine lv_iconst (v := 4) hx hb dL_law_588 (by decide) ?_
                      rw [lW2_mill] at hP hD
                      refine zVi (mG o u ga τ0) (mN u cJ τ0 ++ pX cI ta pa pn τ0) (As := [.int l13_0, .int 4]) (cw := cW o u cI cZ cJ 79) (ci := 8) S (v_X8_ofNode l D cI cZ cJ o u 79 ra ga τ0 l13_0 4 _ H.size hok) mi_X8_ofNode kw_2_182 rfl rfl ⟨(Nat.le_trans (m := 14) (Nat.le_of_ble_eq_true rfl) hRf), (Nat.le_trans (m := 339) (Nat.le_of_ble_eq_true rfl) hRl)⟩ hP hD hK hS hA hB cW_0 rfl rfl hl.1 (Nat.le_of_ble_eq_true rfl) ⟨by omega, by omega⟩ dL_law_589 (fun x108 σ107 H locs hok hz hP hD hS => ?_)
                      rw [lW2_c] at hP hD
                      obtain ⟨σ109, eσ109⟩ : ∃ z : FS, z = mrg σ107 τ0 := ⟨_, rfl⟩
                      rw [← eσ109] at hP hD
                      have hok := hok σ109 eσ109
                      refine lv_if_eq (tgt := 597) hx hb dL_law_592 (by decide) (fun c_592 => ?_) (fun c_592 => ?_)
                      · have hok := hok.1 c_592
                        refine lv_iload hx hb dL_law_597 (lv_at hl 1 rfl) ?_
                        refine lv_aload_n hx hb dL_law_599 rfl (lv_at hl 9 rfl) ?_
                        refine lv_iload hx hb dL_law_600 (lv_at hl 0 rfl) ?_
                        refine lv_iconst (v := 5) hx hb dL_law_602 (by decide) ?_
                        rw [lW2_mill] at hP hD
                        refine zVi (mG o u ga σ109) (mN u cJ σ109 ++ pX cI ta pa pn σ109) (As := [.int l13_0, .int 5]) (cw := cW o u cI cZ cJ 79) (ci := 8) S (v_X8_ofNode l D cI cZ cJ o u 79 ra ga σ109 l13_0 5 _ H.size hok) mi_X8_ofNode kw_2_182 rfl rfl ⟨(Nat.le_trans (m := 14) (Nat.le_of_ble_eq_true rfl) hRf), (Nat.le_trans (m := 339) (Nat.le_of_ble_eq_true rfl) hRl)⟩ hP hD hK hS hA hB cW_0 rfl rfl hl.1 (Nat.le_of_ble_eq_true rfl) ⟨by omega, by omega⟩ dL_law_603 (fun x111 σ110 H locs hok hz hP hD hS => ?_)
                        rw [lW2_c] at hP hD
                        obtain ⟨σ112, eσ112⟩ : ∃ z : FS, z = mrg σ110 σ109 := ⟨_, rfl⟩
                        rw [← eσ112] at hP hD
                        have hok := hok σ112 eσ112
                        refine xiadd (v := l12_0 + x111) S dL_law_606 rfl ?_
                        refine lv_topi (fun x113 ex113 => ?_)
                        have hok := hok x113 ex113
                        refine lv_istore (lv' := [(12, .int x113), (13, .int l13_0), (11, .int x105), (9, .long x40), (8, .ref pa), (7, .int x30), (6, .ref ta), (5, .int x21), (4, .int x3), (3, .ref o), (2, .ref (u 87)), (1, .int tm), (0, .ref b)]) hx hb dL_law_607 hl (by decide) rfl (fun ls hl => ?_)
                        refine lv_iinc (v := l13_0 + 1) (lv' := [(13, .int (l13_0 + 1)), (12, .int x113), (11, .int x105), (9, .long x40), (8, .ref pa), (7, .int x30), (6, .ref ta), (5, .int x21), (4, .int x3), (3, .ref o), (2, .ref (u 87)), (1, .int tm), (0, .ref b)]) hx hb dL_law_609 hl (k := 1) rfl rfl (by decide) rfl (fun ls hl => ?_)
                        refine lv_goto (tgt := 576) hx hb dL_law_612 (by decide) ?_
                        exact ih576 σ112 (l13_0 + 1) x113 H locs ls hok (lv_sub hl [0, 1, 2, 3, 4, 5, 6, 7, 8, 9, 10, 11, 12] rfl) hP hD hS
                      · have hok := hok.2 c_592
                        refine lv_iconst (v := 0) hx hb dL_law_595 (by decide) ?_
                        exact False.elim hok
                refine lp576 _ ?_ FUEL σ106 0 0 _ _ _ hok (lv_sub hl [0, 1, 2, 3, 4, 5, 6, 7, 8, 9, 10, 11, 12] rfl) hP hD hS
                intro σ114 x115 x116 H locs ls hok hl hP hD hS
                refine lv_aload_n hx hb dL_law_615 rfl (lv_at hl 10 rfl) ?_
                refine lv_bipush (v := 17) hx hb dL_law_616 (by decide) ?_
                refine lv_bipush (v := 9) hx hb dL_law_618 (by decide) ?_
                refine lv_iconst (v := 0) hx hb dL_law_620 (by decide) ?_
                refine lv_iconst (v := 0) hx hb dL_law_621 (by decide) ?_
                have hP : va_P D vwCl (([] : va_W) ++ ((mW o u cI cZ cJ 79 ga σ114) ++ pX cI ta pa pn σ114)) H := hP
                have hD : va_D A (([] : va_W) ++ ((mW o u cI cZ cJ 79 ga σ114) ++ pX cI ta pa pn σ114)) := hD
                refine zVi [] (pX cI ta pa pn σ114) (As := [.int 17, .int 9, .int 0, .int 0]) (cw := (mW o u cI cZ cJ 79 ga)) (ci := 9) S (v_X9_add l D cI cZ cJ o u 79 ra ga σ114 17 9 0 0 _ H.size hok) mi_X9_add kw_6_69 rfl rfl ⟨(Nat.le_trans (m := 14) (Nat.le_of_ble_eq_true rfl) hRf), (Nat.le_trans (m := 339) (Nat.le_of_ble_eq_true rfl) hRl)⟩ hP hD hK hS hA hB mW_0 rfl rfl hl.1 (Nat.le_of_ble_eq_true rfl) ⟨by omega, by omega⟩ dL_law_622 (fun x117 σ119 H locs hok hz hP hD hS => ?_)
                have hP : va_P D vwCl ((mW o u cI cZ cJ 79 ga σ119) ++ pX cI ta pa pn σ114) H := hP
                have hD : va_D A ((mW o u cI cZ cJ 79 ga σ119) ++ pX cI ta pa pn σ114) := hD
                rw [lW2_m] at hP hD
                obtain ⟨σ120, eσ120⟩ : ∃ z : FS, z = mrm σ119 σ114 := ⟨_, rfl⟩
                rw [← eσ120] at hP hD
                have hok := hok σ120 eσ120
                refine W.widen (k := ca + 149) (n := sl + 748) (by omega) (by omega) ?_
                refine lv_istore (lv' := [(13, .int x117), (12, .int x116), (11, .int x105), (9, .long x40), (8, .ref pa), (7, .int x30), (6, .ref ta), (5, .int x21), (4, .int x3), (3, .ref o), (2, .ref (u 87)), (1, .int tm), (0, .ref b)]) hx hb dL_law_625 hl (by decide) rfl (fun ls hl => ?_)
                refine lv_iload hx hb dL_law_627 (lv_at hl 1 rfl) ?_
                refine lv_iload hx hb dL_law_629 (lv_at hl 2 rfl) ?_
                refine lv_icmp_ne (tgt := 717) hx hb dL_law_631 (by decide) (fun c_631 => ?_) (fun c_631 => ?_)
                · have hok := hok.2 c_631
                  refine lv_iconst (v := 0) hx hb dL_law_717 (by decide) ?_
                  exact False.elim hok
                · have hok := hok.1 c_631
                  refine lv_iload hx hb dL_law_634 (lv_at hl 0 rfl) ?_
                  refine lv_sipush (v := 1000) hx hb dL_law_636 (by decide) ?_
                  refine lv_icmp_eq (tgt := 717) hx hb dL_law_639 (by decide) (fun c_639 => ?_) (fun c_639 => ?_)
                  · have hok := hok.1 c_639
                    refine lv_iconst (v := 0) hx hb dL_law_717 (by decide) ?_
                    exact False.elim hok
                  · have hok := hok.2 c_639
                    refine lv_aload_n hx hb dL_law_642 rfl (lv_at hl 9 rfl) ?_
                    refine lv_iconst (v := 0) hx hb dL_law_643 (by decide) ?_
                    refine lv_iload hx hb dL_law_644 (lv_at hl 0 rfl) ?_
                    rw [lW2_mill] at hP hD
                    refine zVi (mG o u ga σ120) (mN u cJ σ120 ++ pX cI ta pa pn σ120) (As := [.int 0, .int x117]) (cw := cW o u cI cZ cJ 79) (ci := 8) S (v_X8_body l D cI cZ cJ o u 79 ra ga σ120 0 x117 _ H.size hok) mi_X8_body kw_2_142 rfl rfl ⟨(Nat.le_trans (m := 14) (Nat.le_of_ble_eq_true rfl) hRf), (Nat.le_trans (m := 339) (Nat.le_of_ble_eq_true rfl) hRl)⟩ hP hD hK hS hA hB cW_0 rfl rfl hl.1 (Nat.le_of_ble_eq_true rfl) ⟨by omega, by omega⟩ dL_law_646 (fun x122 σ121 H locs hok hz hP hD hS => ?_)
                    rw [lW2_c] at hP hD
                    obtain ⟨σ123, eσ123⟩ : ∃ z : FS, z = mrg σ121 σ120 := ⟨_, rfl⟩
                    rw [← eσ123] at hP hD
                    have hok := hok σ123 eσ123
                    refine lv_iload hx hb dL_law_649 (lv_at hl 8 rfl) ?_
                    refine lv_icmp_ne (tgt := 717) hx hb dL_law_651 (by decide) (fun c_651 => ?_) (fun c_651 => ?_)
                    · have hok := hok.2 c_651
                      refine lv_iconst (v := 0) hx hb dL_law_717 (by decide) ?_
                      exact False.elim hok
                    · have hok := hok.1 c_651
                      refine lv_aload_n hx hb dL_law_654 rfl (lv_at hl 9 rfl) ?_
                      refine lv_iconst (v := 2) hx hb dL_law_655 (by decide) ?_
                      rw [lW2_mill] at hP hD
                      refine zVi (mG o u ga σ123) (mN u cJ σ123 ++ pX cI ta pa pn σ123) (As := [.int 2]) (cw := cW o u cI cZ cJ 79) (ci := 8) S (v_X8_many l D cI cZ cJ o u 79 ra ga σ123 2 _ H.size hok) mi_X8_many kw_3_147 rfl rfl ⟨(Nat.le_trans (m := 14) (Nat.le_of_ble_eq_true rfl) hRf), (Nat.le_trans (m := 339) (Nat.le_of_ble_eq_true rfl) hRl)⟩ hP hD hK hS hA hB cW_0 rfl rfl hl.1 (Nat.le_of_ble_eq_true rfl) ⟨by omega, by omega⟩ dL_law_656 (fun x125 σ124 H locs hok hz hP hD hS => ?_)
                      rw [lW2_c] at hP hD
                      obtain ⟨σ126, eσ126⟩ : ∃ z : FS, z = mrg σ124 σ123 := ⟨_, rfl⟩
                      rw [← eσ126] at hP hD
                      have hok := hok σ126 eσ126
                      refine lv_aload_n hx hb dL_law_659 rfl (lv_at hl 10 rfl) ?_
                      refine xg (ci := 9) S inX9 rfl hK hP lW2_0 3 (by decide) rfl kw_5_232 rfl dL_law_660 ?_
                      refine lv_iconst (v := 1) hx hb dL_law_663 (by decide) ?_
                      refine xisub (v := (σ126.1 88 3) - 1) S dL_law_664 rfl ?_
                      refine lv_icmp_ne (tgt := 717) hx hb dL_law_665 (by decide) (fun c_665 => ?_) (fun c_665 => ?_)
                      · have hok := hok.2 c_665
                        refine lv_iconst (v := 0) hx hb dL_law_717 (by decide) ?_
                        exact False.elim hok
                      · have hok := hok.1 c_665
                        refine lv_aload_n hx hb dL_law_668 rfl (lv_at hl 9 rfl) ?_
                        refine lv_iconst (v := 5) hx hb dL_law_669 (by decide) ?_
                        rw [lW2_mill] at hP hD
                        refine zVi (mG o u ga σ126) (mN u cJ σ126 ++ pX cI ta pa pn σ126) (As := [.int 5]) (cw := cW o u cI cZ cJ 79) (ci := 8) S (v_X8_many l D cI cZ cJ o u 79 ra ga σ126 5 _ H.size hok) mi_X8_many kw_3_147 rfl rfl ⟨(Nat.le_trans (m := 14) (Nat.le_of_ble_eq_true rfl) hRf), (Nat.le_trans (m := 339) (Nat.le_of_ble_eq_true rfl) hRl)⟩ hP hD hK hS hA hB cW_0 rfl rfl hl.1 (Nat.le_of_ble_eq_true rfl) ⟨by omega, by omega⟩ dL_law_670 (fun x128 σ127 H locs hok hz hP hD hS => ?_)
                        rw [lW2_c] at hP hD
                        obtain ⟨σ129, eσ129⟩ : ∃ z : FS, z = mrg σ127 σ126 := ⟨_, rfl⟩
                        rw [← eσ129] at hP hD
                        have hok := hok σ129 eσ129
                        refine lv_if_ne (tgt := 717) hx hb dL_law_673 (by decide) (fun c_673 => ?_) (fun c_673 => ?_)
                        · have hok := hok.2 c_673
                          refine lv_iconst (v := 0) hx hb dL_law_717 (by decide) ?_
                          exact False.elim hok
                        · have hok := hok.1 c_673
                          refine lv_aload_n hx hb dL_law_676 rfl (lv_at hl 9 rfl) ?_
                          refine lv_iconst (v := 3) hx hb dL_law_677 (by decide) ?_
                          rw [lW2_mill] at hP hD
                          refine zVi (mG o u ga σ129) (mN u cJ σ129 ++ pX cI ta pa pn σ129) (As := [.int 3]) (cw := cW o u cI cZ cJ 79) (ci := 8) S (v_X8_many l D cI cZ cJ o u 79 ra ga σ129 3 _ H.size hok) mi_X8_many kw_3_147 rfl rfl ⟨(Nat.le_trans (m := 14) (Nat.le_of_ble_eq_true rfl) hRf), (Nat.le_trans (m := 339) (Nat.le_of_ble_eq_true rfl) hRl)⟩ hP hD hK hS hA hB cW_0 rfl rfl hl.1 (Nat.le_of_ble_eq_true rfl) ⟨by omega, by omega⟩ dL_law_678 (fun x131 σ130 H locs hok hz hP hD hS => ?_)
                          rw [lW2_c] at hP hD
                          obtain ⟨σ132, eσ132⟩ : ∃ z : FS, z = mrg σ130 σ129 := ⟨_, rfl⟩
                          rw [← eσ132] at hP hD
                          have hok := hok σ132 eσ132
                          refine lv_iconst (v := 1) hx hb dL_law_681 (by decide) ?_
                          refine lv_icmp_ne (tgt := 717) hx hb dL_law_682 (by decide) (fun c_682 => ?_) (fun c_682 => ?_)
                          · have hok := hok.2 c_682
                            refine lv_iconst (v := 0) hx hb dL_law_717 (by decide) ?_
                            exact False.elim hok
                          · have hok := hok.1 c_682
                            refine lv_aload_n hx hb dL_law_685 rfl (lv_at hl 9 rfl) ?_
                            refine lv_iconst (v := 0) hx hb dL_law_686 (by decide) ?_
                            refine lv_iconst (v := 0) hx hb dL_law_687 (by decide) ?_
                            rw [lW2_mill] at hP hD
                            refine zVi (mG o u ga σ132) (mN u cJ σ132 ++ pX cI ta pa pn σ132) (As := [.int 0, .int 0]) (cw := cW o u cI cZ cJ 79) (ci := 8) S (v_X8_fault l D cI cZ cJ o u 79 ra ga σ132 0 0 _ H.size hok) mi_X8_fault kw_2_186 rfl rfl ⟨(Nat.le_trans (m := 14) (Nat.le_of_ble_eq_true rfl) hRf), (Nat.le_trans (m := 339) (Nat.le_of_ble_eq_true rfl) hRl)⟩ hP hD hK hS hA hB cW_0 rfl rfl hl.1 (Nat.le_of_ble_eq_true rfl) ⟨by omega, by omega⟩ dL_law_688 (fun x134 σ133 H locs hok hz hP hD hS => ?_)
                            rw [lW2_c] at hP hD
                            obtain ⟨σ135, eσ135⟩ : ∃ z : FS, z = mrg σ133 σ132 := ⟨_, rfl⟩
                            rw [← eσ135] at hP hD
                            have hok := hok σ135 eσ135
                            refine lv_bipush (v := 6) hx hb dL_law_691 (by decide) ?_
                            refine lv_icmp_ne (tgt := 717) hx hb dL_law_693 (by decide) (fun c_693 => ?_) (fun c_693 => ?_)
                            · have hok := hok.2 c_693
                              refine lv_iconst (v := 0) hx hb dL_law_717 (by decide) ?_
                              exact False.elim hok
                            · have hok := hok.1 c_693
                              refine lv_aload_n hx hb dL_law_696 rfl (lv_at hl 9 rfl) ?_
                              refine lv_bipush (v := 10) hx hb dL_law_697 (by decide) ?_
                              rw [lW2_mill] at hP hD
                              refine zVi (mG o u ga σ135) (mN u cJ σ135 ++ pX cI ta pa pn σ135) (As := [.int 10]) (cw := cW o u cI cZ cJ 79) (ci := 8) S (v_X8_many l D cI cZ cJ o u 79 ra ga σ135 10 _ H.size hok) mi_X8_many kw_3_147 rfl rfl ⟨(Nat.le_trans (m := 14) (Nat.le_of_ble_eq_true rfl) hRf), (Nat.le_trans (m := 339) (Nat.le_of_ble_eq_true rfl) hRl)⟩ hP hD hK hS hA hB cW_0 rfl rfl hl.1 (Nat.le_of_ble_eq_true rfl) ⟨by omega, by omega⟩ dL_law_699 (fun x137 σ136 H locs hok hz hP hD hS => ?_)
                              rw [lW2_c] at hP hD
                              obtain ⟨σ138, eσ138⟩ : ∃ z : FS, z = mrg σ136 σ135 := ⟨_, rfl⟩
                              rw [← eσ138] at hP hD
                              have hok := hok σ138 eσ138
                              refine lv_if_ne (tgt := 717) hx hb dL_law_702 (by decide) (fun c_702 => ?_) (fun c_702 => ?_)
                              · have hok := hok.2 c_702
                                refine lv_iconst (v := 0) hx hb dL_law_717 (by decide) ?_
                                exact False.elim hok
                              · have hok := hok.1 c_702
                                refine lv_aload_n hx hb dL_law_705 rfl (lv_at hl 9 rfl) ?_
                                refine lv_iconst (v := 3) hx hb dL_law_706 (by decide) ?_
                                rw [lW2_mill] at hP hD
                                refine zVi (mG o u ga σ138) (mN u cJ σ138 ++ pX cI ta pa pn σ138) (As := [.int 3]) (cw := cW o u cI cZ cJ 79) (ci := 8) S (v_X8_ofRun l D cI cZ cJ o u 79 ra ga σ138 3 _ H.size hok) mi_X8_ofRun kw_3_131 rfl rfl ⟨(Nat.le_trans (m := 14) (Nat.le_of_ble_eq_true rfl) hRf), (Nat.le_trans (m := 339) (Nat.le_of_ble_eq_true rfl) hRl)⟩ hP hD hK hS hA hB cW_0 rfl rfl hl.1 (Nat.le_of_ble_eq_true rfl) ⟨by omega, by omega⟩ dL_law_707 (fun x140 σ139 H locs hok hz hP hD hS => ?_)
                                rw [lW2_c] at hP hD
                                obtain ⟨σ141, eσ141⟩ : ∃ z : FS, z = mrg σ139 σ138 := ⟨_, rfl⟩
                                rw [← eσ141] at hP hD
                                have hok := hok σ141 eσ141
                                refine lv_aload hx hb dL_law_710 (lv_at hl 6 rfl) ?_
                                refine lv_iconst (v := 3) hx hb dL_law_712 (by decide) ?_
                                refine xiald (t0 := 0) (v := (g σ141 90 3)) S hK hP lW2_90 rfl (vin rfl) rfl dL_law_713 ?_
                                refine lv_icmp_eq (tgt := 719) hx hb dL_law_714 (by decide) (fun c_714 => ?_) (fun c_714 => ?_)
                                · have hok := hok.1 c_714
                                  refine lv_iconst (v := 0) hx hb dL_law_719 (by decide) ?_
                                  refine lv_istore (lv' := [(14, .int 0), (13, .int x117), (12, .int x116), (11, .int x105), (9, .long x40), (8, .ref pa), (7, .int x30), (6, .ref ta), (5, .int x21), (4, .int x3), (3, .ref o), (2, .ref (u 87)), (1, .int tm), (0, .ref b)]) hx hb dL_law_720 hl (by decide) rfl (fun ls hl => ?_)
                                  refine W.widen (k := ca + 149) (n := sl + 748) (by omega) (by omega) ?_
                                  have lp722 : ∀ (K : FS → Int32 → Prop), (∀ (τ0 : FS) (l14_0 : Int32) (H : Heap) (locs : List Loc) (ls : Array Slot), K τ0 l14_0 → lv_has ls 16 [(14, .int l14_0), (13, .int x117), (12, .int x116), (11, .int x105), (9, .long x40), (8, .ref pa), (7, .int x30), (6, .ref ta), (5, .int x21), (4, .int x3), (3, .ref o), (2, .ref (u 87)), (1, .int tm), (0, .ref b)] → va_P D vwCl (lW2 o u cI cZ cJ ta pa pn 79 ga τ0) H → va_D A (lW2 o u cI cZ cJ ta pa pn 79 ga τ0) → va_S A s.heap H locs → W p l e R s m args below meth c H locs (ca + 149) (sl + 748) Q (F0 m 760 ls [])) → ∀ (n0 : Nat) (τ0 : FS) (l14_0 : Int32) (H : Heap) (locs : List Loc) (ls : Array Slot), wp_law_722 ga pn x105 x116 x117 x21 x3 x30 x40 K n0 τ0 l14_0 → lv_has ls 16 [(14, .int l14_0), (13, .int x117), (12, .int x116), (11, .int x105), (9, .long x40), (8, .ref pa), (7, .int x30), (6, .ref ta), (5, .int x21), (4, .int x3), (3, .ref o), (2, .ref (u 87)), (1, .int tm), (0, .ref b)] → va_P D vwCl (lW2 o u cI cZ cJ ta pa pn 79 ga τ0) H → va_D A (lW2 o u cI cZ cJ ta pa pn 79 ga τ0) → va_S A s.heap H locs → W p l e R s m args below meth c H locs (ca + 149) (sl + 748) Q (F0 m 722 ls []) := by
                                    intro K hk n0
                                    induction n0 with
                                    | zero => intro τ0 l14_0 H locs ls hok; exact False.elim hok
                                    | succ n0 ih722 =>
                                      intro τ0 l14_0 H locs ls hok hl hP hD hS
                                      refine lv_iload hx hb dL_law_722 (lv_at hl 0 rfl) ?_
                                      refine lv_iload hx hb dL_law_724 (lv_at hl 1 rfl) ?_
                                      refine lv_icmp_ge (tgt := 760) hx hb dL_law_726 (by decide) (fun c_726 => ?_) (fun c_726 => ?_)
                                      · have hok := hok.1 c_726
                                        exact hk τ0 l14_0 H locs ls hok (lv_sub hl [0, 1, 2, 3, 4, 5, 6, 7, 8, 9, 10, 11, 12, 13] rfl) hP hD hS
                                      · have hok := hok.2 c_726
                                        refine lv_aload_n hx hb dL_law_729 rfl (lv_at hl 10 rfl) ?_
                                        refine lv_iload hx hb dL_law_730 (lv_at hl 0 rfl) ?_
                                        refine lv_iconst (v := 4) hx hb dL_law_732 (by decide) ?_
                                        rw [lW2_mill] at hP hD
                                        refine zVi (mG o u ga τ0) (mN u cJ τ0 ++ pX cI ta pa pn τ0) (As := [.int l14_0, .int 4]) (cw := cW o u cI cZ cJ 79) (ci := 8) S (v_X8_ofNode l D cI cZ cJ o u 79 ra ga τ0 l14_0 4 _ H.size hok) mi_X8_ofNode kw_2_182 rfl rfl ⟨(Nat.le_trans (m := 14) (Nat.le_of_ble_eq_true rfl) hRf), (Nat.le_trans (m := 339) (Nat.le_of_ble_eq_true rfl) hRl)⟩ hP hD hK hS hA hB cW_0 rfl rfl hl.1 (Nat.le_of_ble_eq_true rfl) ⟨by omega, by omega⟩ dL_law_733 (fun x143 σ142 H locs hok hz hP hD hS => ?_)
                                        rw [lW2_c] at hP hD
                                        obtain ⟨σ144, eσ144⟩ : ∃ z : FS, z = mrg σ142 τ0 := ⟨_, rfl⟩
                                        rw [← eσ144] at hP hD
                                        have hok := hok σ144 eσ144
                                        refine lv_iconst (v := (-1)) hx hb dL_law_736 (by decide) ?_
                                        refine lv_icmp_ne (tgt := 752) hx hb dL_law_737 (by decide) (fun c_737 => ?_) (fun c_737 => ?_)
                                        · have hok := hok.2 c_737
                                          refine lv_iconst (v := 0) hx hb dL_law_752 (by decide) ?_
                                          exact False.elim hok
                                        · have hok := hok.1 c_737
                                          refine lv_aload_n hx hb dL_law_740 rfl (lv_at hl 10 rfl) ?_
                                          refine lv_iload hx hb dL_law_741 (lv_at hl 0 rfl) ?_
                                          refine lv_bipush (v := 7) hx hb dL_law_743 (by decide) ?_
                                          rw [lW2_mill] at hP hD
                                          refine zVi (mG o u ga σ144) (mN u cJ σ144 ++ pX cI ta pa pn σ144) (As := [.int l14_0, .int 7]) (cw := cW o u cI cZ cJ 79) (ci := 8) S (v_X8_ofNode l D cI cZ cJ o u 79 ra ga σ144 l14_0 7 _ H.size hok) mi_X8_ofNode kw_2_182 rfl rfl ⟨(Nat.le_trans (m := 14) (Nat.le_of_ble_eq_true rfl) hRf), (Nat.le_trans (m := 339) (Nat.le_of_ble_eq_true rfl) hRl)⟩ hP hD hK hS hA hB cW_0 rfl rfl hl.1 (Nat.le_of_ble_eq_true rfl) ⟨by omega, by omega⟩ dL_law_745 (fun x146 σ145 H locs hok hz hP hD hS => ?_)
                                          rw [lW2_c] at hP hD
                                          obtain ⟨σ147, eσ147⟩ : ∃ z : FS, z = mrg σ145 σ144 := ⟨_, rfl⟩
                                          rw [← eσ147] at hP hD
                                          have hok := hok σ147 eσ147
                                          refine lv_iconst (v := (-1)) hx hb dL_law_748 (by decide) ?_
                                          refine lv_icmp_eq (tgt := 754) hx hb dL_law_749 (by decide) (fun c_749 => ?_) (fun c_749 => ?_)
                                          · have hok := hok.1 c_749
                                            refine lv_iinc (v := l14_0 + 1) (lv' := [(14, .int (l14_0 + 1)), (13, .int x117), (12, .int x116), (11, .int x105), (9, .long x40), (8, .ref pa), (7, .int x30), (6, .ref ta), (5, .int x21), (4, .int x3), (3, .ref o), (2, .ref (u 87)), (1, .int tm), (0, .ref b)]) hx hb dL_law_754 hl (k := 0) rfl rfl (by decide) rfl (fun ls hl => ?_)
                                            refine lv_goto (tgt := 722) hx hb dL_law_757 (by decide) ?_
                                            exact ih722 σ147 (l14_0 + 1) H locs ls hok (lv_sub hl [0, 1, 2, 3, 4, 5, 6, 7, 8, 9, 10, 11, 12, 13] rfl) hP hD hS
                                          · have hok := hok.2 c_749
                                            refine lv_iconst (v := 0) hx hb dL_law_752 (by decide) ?_
                                            exact False.elim hok
                                  refine lp722 _ ?_ FUEL σ141 0 _ _ _ hok (lv_sub hl [0, 1, 2, 3, 4, 5, 6, 7, 8, 9, 10, 11, 12, 13] rfl) hP hD hS
                                  intro σ148 x149 H locs ls hok hl hP hD hS
                                  refine lv_aload_n hx hb dL_law_760 rfl (lv_at hl 10 rfl) ?_
                                  refine lv_iconst (v := 0) hx hb dL_law_761 (by decide) ?_
                                  refine lv_iload hx hb dL_law_762 (lv_at hl 9 rfl) ?_
                                  rw [lW2_mill] at hP hD
                                  refine zVi (mG o u ga σ148) (mN u cJ σ148 ++ pX cI ta pa pn σ148) (As := [.int 0, .int x3]) (cw := cW o u cI cZ cJ 79) (ci := 8) S (v_X8_body l D cI cZ cJ o u 79 ra ga σ148 0 x3 _ H.size hok) mi_X8_body kw_2_142 rfl rfl ⟨(Nat.le_trans (m := 14) (Nat.le_of_ble_eq_true rfl) hRf), (Nat.le_trans (m := 339) (Nat.le_of_ble_eq_true rfl) hRl)⟩ hP hD hK hS hA hB cW_0 rfl rfl hl.1 (Nat.le_of_ble_eq_true rfl) ⟨by omega, by omega⟩ dL_law_764 (fun x151 σ150 H locs hok hz hP hD hS => ?_)
                                  rw [lW2_c] at hP hD
                                  obtain ⟨σ152, eσ152⟩ : ∃ z : FS, z = mrg σ150 σ148 := ⟨_, rfl⟩
                                  rw [← eσ152] at hP hD
                                  have hok := hok σ152 eσ152
                                  refine lv_iload hx hb dL_law_767 (lv_at hl 1 rfl) ?_
                                  refine lv_icmp_ne (tgt := 801) hx hb dL_law_769 (by decide) (fun c_769 => ?_) (fun c_769 => ?_)
                                  · have hok := hok.2 c_769
                                    refine lv_iconst (v := 0) hx hb dL_law_801 (by decide) ?_
                                    exact False.elim hok
                                  · have hok := hok.1 c_769
                                    refine lv_aload_n hx hb dL_law_772 rfl (lv_at hl 10 rfl) ?_
                                    refine lv_iconst (v := 5) hx hb dL_law_773 (by decide) ?_
                                    rw [lW2_mill] at hP hD
                                    refine zVi (mG o u ga σ152) (mN u cJ σ152 ++ pX cI ta pa pn σ152) (As := [.int 5]) (cw := cW o u cI cZ cJ 79) (ci := 8) S (v_X8_many l D cI cZ cJ o u 79 ra ga σ152 5 _ H.size hok) mi_X8_many kw_3_147 rfl rfl ⟨(Nat.le_trans (m := 14) (Nat.le_of_ble_eq_true rfl) hRf), (Nat.le_trans (m := 339) (Nat.le_of_ble_eq_true rfl) hRl)⟩ hP hD hK hS hA hB cW_0 rfl rfl hl.1 (Nat.le_of_ble_eq_true rfl) ⟨by omega, by omega⟩ dL_law_774 (fun x154 σ153 H locs hok hz hP hD hS => ?_)
                                    rw [lW2_c] at hP hD
                                    obtain ⟨σ155, eσ155⟩ : ∃ z : FS, z = mrg σ153 σ152 := ⟨_, rfl⟩
                                    rw [← eσ155] at hP hD
                                    have hok := hok σ155 eσ155
                                    refine lv_iload hx hb dL_law_777 (lv_at hl 3 rfl) ?_
                                    refine lv_icmp_ne (tgt := 801) hx hb dL_law_779 (by decide) (fun c_779 => ?_) (fun c_779 => ?_)
                                    · have hok := hok.2 c_779
                                      refine lv_iconst (v := 0) hx hb dL_law_801 (by decide) ?_
                                      exact False.elim hok
                                    · have hok := hok.1 c_779
                                      refine lv_aload_n hx hb dL_law_782 rfl (lv_at hl 10 rfl) ?_
                                      rw [lW2_mill] at hP hD
                                      refine zVi (mG o u ga σ155) (mN u cJ σ155 ++ pX cI ta pa pn σ155) (As := []) (cw := cW o u cI cZ cJ 79) (ci := 8) S (v_X8_run l D cI cZ cJ o u 79 ra ga σ155 _ H.size hok) mi_X8_run kw_2_198 rfl rfl ⟨(Nat.le_trans (m := 14) (Nat.le_of_ble_eq_true rfl) hRf), (Nat.le_trans (m := 339) (Nat.le_of_ble_eq_true rfl) hRl)⟩ hP hD hK hS hA hB cW_0 rfl rfl hl.1 (Nat.le_of_ble_eq_true rfl) ⟨by omega, by omega⟩ dL_law_783 (fun x157 σ156 H locs hok hz hP hD hS => ?_)
                                      rw [lW2_c] at hP hD
                                      obtain ⟨σ158, eσ158⟩ : ∃ z : FS, z = mrg σ156 σ155 := ⟨_, rfl⟩
                                      rw [← eσ158] at hP hD
                                      have hok := hok σ158 eσ158
                                      refine lv_iload hx hb dL_law_786 (lv_at hl 8 rfl) ?_
                                      refine lv_icmp_ne (tgt := 801) hx hb dL_law_788 (by decide) (fun c_788 => ?_) (fun c_788 => ?_)
                                      · have hok := hok.2 c_788
                                        refine lv_iconst (v := 0) hx hb dL_law_801 (by decide) ?_
                                        exact False.elim hok
                                      · have hok := hok.1 c_788
                                        refine lv_aload_n hx hb dL_law_791 rfl (lv_at hl 10 rfl) ?_
                                        refine lv_bipush (v := 10) hx hb dL_law_792 (by decide) ?_
                                        rw [lW2_mill] at hP hD
                                        refine zVi (mG o u ga σ158) (mN u cJ σ158 ++ pX cI ta pa pn σ158) (As := [.int 10]) (cw := cW o u cI cZ cJ 79) (ci := 8) S (v_X8_ofRun l D cI cZ cJ o u 79 ra ga σ158 10 _ H.size hok) mi_X8_ofRun kw_3_131 rfl rfl ⟨(Nat.le_trans (m := 14) (Nat.le_of_ble_eq_true rfl) hRf), (Nat.le_trans (m := 339) (Nat.le_of_ble_eq_true rfl) hRl)⟩ hP hD hK hS hA hB cW_0 rfl rfl hl.1 (Nat.le_of_ble_eq_true rfl) ⟨by omega, by omega⟩ dL_law_794 (fun x160 σ159 H locs hok hz hP hD hS => ?_)
                                        rw [lW2_c] at hP hD
                                        obtain ⟨σ161, eσ161⟩ : ∃ z : FS, z = mrg σ159 σ158 := ⟨_, rfl⟩
                                        rw [← eσ161] at hP hD
                                        have hok := hok σ161 eσ161
                                        refine lv_iconst (v := 3) hx hb dL_law_797 (by decide) ?_
                                        refine lv_icmp_eq (tgt := 803) hx hb dL_law_798 (by decide) (fun c_798 => ?_) (fun c_798 => ?_)
                                        · have hok := hok.1 c_798
                                          refine W.widen (k := ca + 149) (n := sl + 748) (by omega) (by omega) ?_
                                          exact next H locs ls (lv_sub hl [12, 13] rfl) hS
                                        · have hok := hok.2 c_798
                                          refine lv_iconst (v := 0) hx hb dL_law_801 (by decide) ?_
                                          exact False.elim hok
                                · have hok := hok.2 c_714
                                  refine lv_iconst (v := 0) hx hb dL_law_717 (by decide) ?_
                                  exact False.elim hok
              · have hok := hok.2 c_487
                refine lv_iconst (v := 0) hx hb dL_law_490 (by decide) ?_
                exact False.elim hok
            · have hok := hok.2 c_89
              refine lv_iconst (v := 0) hx hb dL_law_92 (by decide) ?_
              exact False.elim hok
  · have hok := hok.1 c_32
    refine lv_iconst (v := 0) hx hb dL_law_35 (by decide) ?_
    exact False.elim hok
end LU
