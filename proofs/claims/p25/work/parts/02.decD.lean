theorem dL_holds_334 : decode cL_holds 334 = .ok (.aload_n 0, 1) := by decide +kernel
theorem dL_holds_335 : decode cL_holds 335 = .ok (.bipush 11, 2) := by decide +kernel
theorem dL_holds_337 : decode cL_holds 337 = .ok (.invokevirtual 13, 3) := by decide +kernel
theorem dL_holds_340 : decode cL_holds 340 = .ok (.if_icmp .ne 77, 3) := by decide +kernel
theorem dL_holds_343 : decode cL_holds 343 = .ok (.aload_n 0, 1) := by decide +kernel
theorem dL_holds_344 : decode cL_holds 344 = .ok (.bipush 6, 2) := by decide +kernel
theorem dL_holds_346 : decode cL_holds 346 = .ok (.invokevirtual 13, 3) := by decide +kernel
theorem dL_holds_349 : decode cL_holds 349 = .ok (.bipush (-4), 2) := by decide +kernel
theorem dL_holds_351 : decode cL_holds 351 = .ok (.if_icmp .ne 7, 3) := by decide +kernel
theorem dL_holds_354 : decode cL_holds 354 = .ok (.iconst 1, 1) := by decide +kernel
theorem dL_holds_355 : decode cL_holds 355 = .ok (.goto 4, 3) := by decide +kernel
theorem dL_holds_358 : decode cL_holds 358 = .ok (.iconst 0, 1) := by decide +kernel
theorem dL_holds_359 : decode cL_holds 359 = .ok (.iload_n 2, 1) := by decide +kernel
theorem dL_holds_360 : decode cL_holds 360 = .ok (.ifCond .ne 7, 3) := by decide +kernel
theorem dL_holds_363 : decode cL_holds 363 = .ok (.iconst 1, 1) := by decide +kernel
theorem dL_holds_364 : decode cL_holds 364 = .ok (.goto 4, 3) := by decide +kernel
theorem dL_holds_367 : decode cL_holds 367 = .ok (.iconst 0, 1) := by decide +kernel
theorem dL_holds_368 : decode cL_holds 368 = .ok (.if_icmp .ne 49, 3) := by decide +kernel
theorem dL_holds_371 : decode cL_holds 371 = .ok (.aload_n 0, 1) := by decide +kernel
theorem dL_holds_372 : decode cL_holds 372 = .ok (.iconst 4, 1) := by decide +kernel
theorem dL_holds_373 : decode cL_holds 373 = .ok (.invokevirtual 13, 3) := by decide +kernel
theorem dL_holds_376 : decode cL_holds 376 = .ok (.bipush 8, 2) := by decide +kernel
theorem dL_holds_378 : decode cL_holds 378 = .ok (.if_icmp .gt 39, 3) := by decide +kernel
theorem dL_holds_381 : decode cL_holds 381 = .ok (.iload 4, 2) := by decide +kernel
theorem dL_holds_383 : decode cL_holds 383 = .ok (.ifCond .eq 15, 3) := by decide +kernel
theorem dL_holds_386 : decode cL_holds 386 = .ok (.iload_n 2, 1) := by decide +kernel
theorem dL_holds_387 : decode cL_holds 387 = .ok (.ifCond .ne 30, 3) := by decide +kernel
theorem dL_holds_390 : decode cL_holds 390 = .ok (.aload_n 0, 1) := by decide +kernel
theorem dL_holds_391 : decode cL_holds 391 = .ok (.iconst 4, 1) := by decide +kernel
theorem dL_holds_392 : decode cL_holds 392 = .ok (.invokevirtual 13, 3) := by decide +kernel
theorem dL_holds_395 : decode cL_holds 395 = .ok (.ifCond .ne 22, 3) := by decide +kernel
theorem dL_holds_398 : decode cL_holds 398 = .ok (.aload_n 0, 1) := by decide +kernel
theorem dL_holds_399 : decode cL_holds 399 = .ok (.aload_n 0, 1) := by decide +kernel
theorem dL_holds_400 : decode cL_holds 400 = .ok (.iconst 4, 1) := by decide +kernel
theorem dL_holds_401 : decode cL_holds 401 = .ok (.invokevirtual 13, 3) := by decide +kernel
theorem dL_holds_404 : decode cL_holds 404 = .ok (.iconst 0, 1) := by decide +kernel
theorem dL_holds_405 : decode cL_holds 405 = .ok (.invokevirtual 26, 3) := by decide +kernel
theorem dL_holds_408 : decode cL_holds 408 = .ok (.bipush (-4), 2) := by decide +kernel
theorem dL_holds_410 : decode cL_holds 410 = .ok (.if_icmp .ne 7, 3) := by decide +kernel
theorem dL_holds_413 : decode cL_holds 413 = .ok (.iconst 1, 1) := by decide +kernel
theorem dL_holds_414 : decode cL_holds 414 = .ok (.goto 4, 3) := by decide +kernel
theorem dL_holds_417 : decode cL_holds 417 = .ok (.iconst 0, 1) := by decide +kernel
theorem dL_holds_418 : decode cL_holds 418 = .ok (.ireturn, 1) := by decide +kernel
theorem dL_digits_0 : decode cL_digits 0 = .ok (.iload_n 1, 1) := by decide +kernel
theorem dL_digits_1 : decode cL_digits 1 = .ok (.bipush 100, 2) := by decide +kernel
theorem dL_digits_3 : decode cL_digits 3 = .ok (.if_icmp .lt 17, 3) := by decide +kernel
theorem dL_digits_6 : decode cL_digits 6 = .ok (.aload_n 0, 1) := by decide +kernel
theorem dL_digits_7 : decode cL_digits 7 = .ok (.bipush 48, 2) := by decide +kernel
theorem dL_digits_9 : decode cL_digits 9 = .ok (.iload_n 1, 1) := by decide +kernel
theorem dL_digits_10 : decode cL_digits 10 = .ok (.bipush 100, 2) := by decide +kernel
theorem dL_digits_12 : decode cL_digits 12 = .ok (.idiv, 1) := by decide +kernel
theorem dL_digits_13 : decode cL_digits 13 = .ok (.iadd, 1) := by decide +kernel
theorem dL_digits_14 : decode cL_digits 14 = .ok (.invokevirtual 35, 3) := by decide +kernel
theorem dL_digits_17 : decode cL_digits 17 = .ok (.ifCond .le 30, 3) := by decide +kernel
theorem dL_digits_20 : decode cL_digits 20 = .ok (.iload_n 1, 1) := by decide +kernel
theorem dL_digits_21 : decode cL_digits 21 = .ok (.bipush 10, 2) := by decide +kernel
theorem dL_digits_23 : decode cL_digits 23 = .ok (.if_icmp .lt 20, 3) := by decide +kernel
theorem dL_digits_26 : decode cL_digits 26 = .ok (.aload_n 0, 1) := by decide +kernel
theorem dL_digits_27 : decode cL_digits 27 = .ok (.bipush 48, 2) := by decide +kernel
theorem dL_digits_29 : decode cL_digits 29 = .ok (.iload_n 1, 1) := by decide +kernel
theorem dL_digits_30 : decode cL_digits 30 = .ok (.bipush 10, 2) := by decide +kernel
theorem dL_digits_32 : decode cL_digits 32 = .ok (.idiv, 1) := by decide +kernel
theorem dL_digits_33 : decode cL_digits 33 = .ok (.bipush 10, 2) := by decide +kernel
theorem dL_digits_35 : decode cL_digits 35 = .ok (.irem, 1) := by decide +kernel
theorem dL_digits_36 : decode cL_digits 36 = .ok (.iadd, 1) := by decide +kernel
theorem dL_digits_37 : decode cL_digits 37 = .ok (.invokevirtual 35, 3) := by decide +kernel
theorem dL_digits_40 : decode cL_digits 40 = .ok (.ifCond .le 7, 3) := by decide +kernel
theorem dL_digits_43 : decode cL_digits 43 = .ok (.iconst 1, 1) := by decide +kernel
theorem dL_digits_44 : decode cL_digits 44 = .ok (.goto 4, 3) := by decide +kernel
theorem dL_digits_47 : decode cL_digits 47 = .ok (.iconst 0, 1) := by decide +kernel
theorem dL_digits_48 : decode cL_digits 48 = .ok (.istore_n 2, 1) := by decide +kernel
theorem dL_digits_49 : decode cL_digits 49 = .ok (.iload_n 2, 1) := by decide +kernel
theorem dL_digits_50 : decode cL_digits 50 = .ok (.ifCond .eq 21, 3) := by decide +kernel
theorem dL_digits_53 : decode cL_digits 53 = .ok (.aload_n 0, 1) := by decide +kernel
theorem dL_digits_54 : decode cL_digits 54 = .ok (.bipush 48, 2) := by decide +kernel
theorem dL_digits_56 : decode cL_digits 56 = .ok (.iload_n 1, 1) := by decide +kernel
theorem dL_digits_57 : decode cL_digits 57 = .ok (.bipush 10, 2) := by decide +kernel
theorem dL_digits_59 : decode cL_digits 59 = .ok (.irem, 1) := by decide +kernel
theorem dL_digits_60 : decode cL_digits 60 = .ok (.iadd, 1) := by decide +kernel
theorem dL_digits_61 : decode cL_digits 61 = .ok (.invokevirtual 35, 3) := by decide +kernel
theorem dL_digits_64 : decode cL_digits 64 = .ok (.ifCond .le 7, 3) := by decide +kernel
theorem dL_digits_67 : decode cL_digits 67 = .ok (.iconst 1, 1) := by decide +kernel
theorem dL_digits_68 : decode cL_digits 68 = .ok (.goto 4, 3) := by decide +kernel
theorem dL_digits_71 : decode cL_digits 71 = .ok (.iconst 0, 1) := by decide +kernel
theorem dL_digits_72 : decode cL_digits 72 = .ok (.ireturn, 1) := by decide +kernel
theorem dL_types_0 : decode cL_types 0 = .ok (.iload_n 1, 1) := by decide +kernel
theorem dL_types_1 : decode cL_types 1 = .ok (.bipush 6, 2) := by decide +kernel
theorem dL_types_3 : decode cL_types 3 = .ok (.invokestatic 38, 3) := by decide +kernel
theorem dL_types_6 : decode cL_types 6 = .ok (.istore_n 2, 1) := by decide +kernel
theorem dL_types_7 : decode cL_types 7 = .ok (.aload_n 0, 1) := by decide +kernel
theorem dL_types_8 : decode cL_types 8 = .ok (.invokevirtual 41, 3) := by decide +kernel
theorem dL_types_11 : decode cL_types 11 = .ok (.ifCond .lt 7, 3) := by decide +kernel
theorem dL_types_14 : decode cL_types 14 = .ok (.iconst 1, 1) := by decide +kernel
theorem dL_types_15 : decode cL_types 15 = .ok (.goto 4, 3) := by decide +kernel
theorem dL_types_18 : decode cL_types 18 = .ok (.iconst 0, 1) := by decide +kernel
theorem dL_types_19 : decode cL_types 19 = .ok (.istore_n 3, 1) := by decide +kernel
theorem dL_types_20 : decode cL_types 20 = .ok (.iconst 0, 1) := by decide +kernel
theorem dL_types_21 : decode cL_types 21 = .ok (.istore 4, 2) := by decide +kernel
theorem dL_types_23 : decode cL_types 23 = .ok (.iload 4, 2) := by decide +kernel
theorem dL_types_25 : decode cL_types 25 = .ok (.iload_n 2, 1) := by decide +kernel
theorem dL_types_26 : decode cL_types 26 = .ok (.if_icmp .ge 305, 3) := by decide +kernel
theorem dL_types_29 : decode cL_types 29 = .ok (.iload_n 1, 1) := by decide +kernel
theorem dL_types_30 : decode cL_types 30 = .ok (.iconst 3, 1) := by decide +kernel
theorem dL_types_31 : decode cL_types 31 = .ok (.iconst 4, 1) := by decide +kernel
theorem dL_types_32 : decode cL_types 32 = .ok (.iload 4, 2) := by decide +kernel
theorem dL_types_34 : decode cL_types 34 = .ok (.imul, 1) := by decide +kernel
theorem dL_types_35 : decode cL_types 35 = .ok (.iadd, 1) := by decide +kernel
theorem dL_types_36 : decode cL_types 36 = .ok (.ishr, 1) := by decide +kernel
theorem dL_types_37 : decode cL_types 37 = .ok (.istore 5, 2) := by decide +kernel
theorem dL_types_39 : decode cL_types 39 = .ok (.iload 5, 2) := by decide +kernel
theorem dL_types_41 : decode cL_types 41 = .ok (.bipush 10, 2) := by decide +kernel
theorem dL_types_43 : decode cL_types 43 = .ok (.invokestatic 38, 3) := by decide +kernel
theorem dL_types_46 : decode cL_types 46 = .ok (.istore 6, 2) := by decide +kernel
theorem dL_types_48 : decode cL_types 48 = .ok (.iload 6, 2) := by decide +kernel
theorem dL_types_50 : decode cL_types 50 = .ok (.iconst 3, 1) := by decide +kernel
theorem dL_types_51 : decode cL_types 51 = .ok (.if_icmp .ge 8, 3) := by decide +kernel
theorem dL_types_54 : decode cL_types 54 = .ok (.bipush 119, 2) := by decide +kernel
theorem dL_types_56 : decode cL_types 56 = .ok (.goto 80, 3) := by decide +kernel
theorem dL_types_59 : decode cL_types 59 = .ok (.iload 6, 2) := by decide +kernel
theorem dL_types_61 : decode cL_types 61 = .ok (.iconst 3, 1) := by decide +kernel
theorem dL_types_62 : decode cL_types 62 = .ok (.if_icmp .ne 8, 3) := by decide +kernel
theorem dL_types_65 : decode cL_types 65 = .ok (.bipush 117, 2) := by decide +kernel
theorem dL_types_67 : decode cL_types 67 = .ok (.goto 69, 3) := by decide +kernel
theorem dL_types_70 : decode cL_types 70 = .ok (.iload 6, 2) := by decide +kernel
theorem dL_types_72 : decode cL_types 72 = .ok (.bipush 6, 2) := by decide +kernel
theorem dL_types_74 : decode cL_types 74 = .ok (.if_icmp .ge 8, 3) := by decide +kernel
theorem dL_types_77 : decode cL_types 77 = .ok (.bipush 116, 2) := by decide +kernel
theorem dL_types_79 : decode cL_types 79 = .ok (.goto 57, 3) := by decide +kernel
theorem dL_types_82 : decode cL_types 82 = .ok (.iload 6, 2) := by decide +kernel
theorem dL_types_84 : decode cL_types 84 = .ok (.bipush 6, 2) := by decide +kernel
theorem dL_types_86 : decode cL_types 86 = .ok (.if_icmp .ne 8, 3) := by decide +kernel
theorem dL_types_89 : decode cL_types 89 = .ok (.bipush 120, 2) := by decide +kernel
theorem dL_types_91 : decode cL_types 91 = .ok (.goto 45, 3) := by decide +kernel
theorem dL_types_94 : decode cL_types 94 = .ok (.iload 6, 2) := by decide +kernel
theorem dL_types_96 : decode cL_types 96 = .ok (.bipush 7, 2) := by decide +kernel
theorem dL_types_98 : decode cL_types 98 = .ok (.if_icmp .ne 8, 3) := by decide +kernel
theorem dL_types_101 : decode cL_types 101 = .ok (.bipush 111, 2) := by decide +kernel
theorem dL_types_103 : decode cL_types 103 = .ok (.goto 33, 3) := by decide +kernel
theorem dL_types_106 : decode cL_types 106 = .ok (.iload 6, 2) := by decide +kernel
theorem dL_types_108 : decode cL_types 108 = .ok (.bipush 8, 2) := by decide +kernel
theorem dL_types_110 : decode cL_types 110 = .ok (.if_icmp .ne 8, 3) := by decide +kernel
theorem dL_types_113 : decode cL_types 113 = .ok (.bipush 115, 2) := by decide +kernel
theorem dL_types_115 : decode cL_types 115 = .ok (.goto 21, 3) := by decide +kernel
theorem dL_types_118 : decode cL_types 118 = .ok (.iload 5, 2) := by decide +kernel
theorem dL_types_120 : decode cL_types 120 = .ok (.iconst 3, 1) := by decide +kernel
theorem dL_types_121 : decode cL_types 121 = .ok (.ishr, 1) := by decide +kernel
theorem dL_types_122 : decode cL_types 122 = .ok (.iconst 2, 1) := by decide +kernel
theorem dL_types_123 : decode cL_types 123 = .ok (.invokestatic 38, 3) := by decide +kernel
theorem dL_types_126 : decode cL_types 126 = .ok (.ifCond .ne 8, 3) := by decide +kernel
theorem dL_types_129 : decode cL_types 129 = .ok (.bipush 99, 2) := by decide +kernel
theorem dL_types_131 : decode cL_types 131 = .ok (.goto 5, 3) := by decide +kernel
theorem dL_types_134 : decode cL_types 134 = .ok (.bipush 101, 2) := by decide +kernel
theorem dL_types_136 : decode cL_types 136 = .ok (.istore 7, 2) := by decide +kernel
theorem dL_types_138 : decode cL_types 138 = .ok (.iload_n 3, 1) := by decide +kernel
theorem dL_types_139 : decode cL_types 139 = .ok (.ifCond .eq 16, 3) := by decide +kernel
theorem dL_types_142 : decode cL_types 142 = .ok (.aload_n 0, 1) := by decide +kernel
theorem dL_types_143 : decode cL_types 143 = .ok (.iload 7, 2) := by decide +kernel
theorem dL_types_145 : decode cL_types 145 = .ok (.invokevirtual 35, 3) := by decide +kernel
theorem dL_types_148 : decode cL_types 148 = .ok (.ifCond .le 7, 3) := by decide +kernel
theorem dL_types_151 : decode cL_types 151 = .ok (.iconst 1, 1) := by decide +kernel
theorem dL_types_152 : decode cL_types 152 = .ok (.goto 4, 3) := by decide +kernel
theorem dL_types_155 : decode cL_types 155 = .ok (.iconst 0, 1) := by decide +kernel
theorem dL_types_156 : decode cL_types 156 = .ok (.istore_n 3, 1) := by decide +kernel
theorem dL_types_157 : decode cL_types 157 = .ok (.iload 6, 2) := by decide +kernel
theorem dL_types_159 : decode cL_types 159 = .ok (.iconst 4, 1) := by decide +kernel
theorem dL_types_160 : decode cL_types 160 = .ok (.if_icmp .ge 58, 3) := by decide +kernel
theorem dL_types_163 : decode cL_types 163 = .ok (.iload_n 3, 1) := by decide +kernel
theorem dL_types_164 : decode cL_types 164 = .ok (.ifCond .eq 49, 3) := by decide +kernel
theorem dL_types_167 : decode cL_types 167 = .ok (.aload_n 0, 1) := by decide +kernel
theorem dL_types_168 : decode cL_types 168 = .ok (.iload 5, 2) := by decide +kernel
theorem dL_types_170 : decode cL_types 170 = .ok (.iconst 2, 1) := by decide +kernel
theorem dL_types_171 : decode cL_types 171 = .ok (.ishr, 1) := by decide +kernel
theorem dL_types_172 : decode cL_types 172 = .ok (.bipush 13, 2) := by decide +kernel
theorem dL_types_174 : decode cL_types 174 = .ok (.invokestatic 38, 3) := by decide +kernel
theorem dL_types_177 : decode cL_types 177 = .ok (.invokestatic 45, 3) := by decide +kernel
theorem dL_types_180 : decode cL_types 180 = .ok (.ifCond .eq 33, 3) := by decide +kernel
theorem dL_types_183 : decode cL_types 183 = .ok (.aload_n 0, 1) := by decide +kernel
theorem dL_types_184 : decode cL_types 184 = .ok (.bipush 44, 2) := by decide +kernel
theorem dL_types_186 : decode cL_types 186 = .ok (.invokevirtual 35, 3) := by decide +kernel
theorem dL_types_189 : decode cL_types 189 = .ok (.ifCond .le 24, 3) := by decide +kernel
theorem dL_types_192 : decode cL_types 192 = .ok (.aload_n 0, 1) := by decide +kernel
theorem dL_types_193 : decode cL_types 193 = .ok (.iload 5, 2) := by decide +kernel
theorem dL_types_195 : decode cL_types 195 = .ok (.iconst 1, 1) := by decide +kernel
theorem dL_types_196 : decode cL_types 196 = .ok (.ishr, 1) := by decide +kernel
theorem dL_types_197 : decode cL_types 197 = .ok (.sipush 1000, 3) := by decide +kernel
theorem dL_types_200 : decode cL_types 200 = .ok (.invokestatic 38, 3) := by decide +kernel
theorem dL_types_203 : decode cL_types 203 = .ok (.invokestatic 45, 3) := by decide +kernel
theorem dL_types_206 : decode cL_types 206 = .ok (.ifCond .eq 7, 3) := by decide +kernel
theorem dL_types_209 : decode cL_types 209 = .ok (.iconst 1, 1) := by decide +kernel
theorem dL_types_210 : decode cL_types 210 = .ok (.goto 4, 3) := by decide +kernel
theorem dL_types_213 : decode cL_types 213 = .ok (.iconst 0, 1) := by decide +kernel
theorem dL_types_214 : decode cL_types 214 = .ok (.istore_n 3, 1) := by decide +kernel
theorem dL_types_215 : decode cL_types 215 = .ok (.goto 71, 3) := by decide +kernel
theorem dL_types_218 : decode cL_types 218 = .ok (.iload 6, 2) := by decide +kernel
theorem dL_types_220 : decode cL_types 220 = .ok (.bipush 6, 2) := by decide +kernel
theorem dL_types_222 : decode cL_types 222 = .ok (.if_icmp .ge 32, 3) := by decide +kernel
theorem dL_types_225 : decode cL_types 225 = .ok (.iload_n 3, 1) := by decide +kernel
theorem dL_types_226 : decode cL_types 226 = .ok (.ifCond .eq 23, 3) := by decide +kernel
theorem dL_types_229 : decode cL_types 229 = .ok (.aload_n 0, 1) := by decide +kernel
theorem dL_types_230 : decode cL_types 230 = .ok (.iload 5, 2) := by decide +kernel
theorem dL_types_232 : decode cL_types 232 = .ok (.iconst 2, 1) := by decide +kernel
theorem dL_types_233 : decode cL_types 233 = .ok (.ishr, 1) := by decide +kernel
theorem dL_types_234 : decode cL_types 234 = .ok (.bipush 15, 2) := by decide +kernel
theorem dL_types_236 : decode cL_types 236 = .ok (.invokestatic 38, 3) := by decide +kernel
theorem dL_types_239 : decode cL_types 239 = .ok (.invokestatic 45, 3) := by decide +kernel
theorem dL_types_242 : decode cL_types 242 = .ok (.ifCond .eq 7, 3) := by decide +kernel
theorem dL_types_245 : decode cL_types 245 = .ok (.iconst 1, 1) := by decide +kernel
theorem dL_types_246 : decode cL_types 246 = .ok (.goto 4, 3) := by decide +kernel
theorem dL_types_249 : decode cL_types 249 = .ok (.iconst 0, 1) := by decide +kernel
theorem dL_types_250 : decode cL_types 250 = .ok (.istore_n 3, 1) := by decide +kernel
theorem dL_types_251 : decode cL_types 251 = .ok (.goto 35, 3) := by decide +kernel
theorem dL_types_254 : decode cL_types 254 = .ok (.iload 6, 2) := by decide +kernel
theorem dL_types_256 : decode cL_types 256 = .ok (.bipush 9, 2) := by decide +kernel
theorem dL_types_258 : decode cL_types 258 = .ok (.if_icmp .ne 28, 3) := by decide +kernel
theorem dL_types_261 : decode cL_types 261 = .ok (.iload_n 3, 1) := by decide +kernel
theorem dL_types_262 : decode cL_types 262 = .ok (.ifCond .eq 22, 3) := by decide +kernel
theorem dL_types_265 : decode cL_types 265 = .ok (.aload_n 0, 1) := by decide +kernel
theorem dL_types_266 : decode cL_types 266 = .ok (.iload 5, 2) := by decide +kernel
theorem dL_types_268 : decode cL_types 268 = .ok (.iconst 4, 1) := by decide +kernel
theorem dL_types_269 : decode cL_types 269 = .ok (.ishr, 1) := by decide +kernel
theorem dL_types_270 : decode cL_types 270 = .ok (.iconst 3, 1) := by decide +kernel
theorem dL_types_271 : decode cL_types 271 = .ok (.invokestatic 38, 3) := by decide +kernel
theorem dL_types_274 : decode cL_types 274 = .ok (.invokestatic 45, 3) := by decide +kernel
theorem dL_types_277 : decode cL_types 277 = .ok (.ifCond .eq 7, 3) := by decide +kernel
theorem dL_types_280 : decode cL_types 280 = .ok (.iconst 1, 1) := by decide +kernel
theorem dL_types_281 : decode cL_types 281 = .ok (.goto 4, 3) := by decide +kernel
theorem dL_types_284 : decode cL_types 284 = .ok (.iconst 0, 1) := by decide +kernel
theorem dL_types_285 : decode cL_types 285 = .ok (.istore_n 3, 1) := by decide +kernel
theorem dL_types_286 : decode cL_types 286 = .ok (.iload_n 3, 1) := by decide +kernel
theorem dL_types_287 : decode cL_types 287 = .ok (.ifCond .eq 36, 3) := by decide +kernel
theorem dL_types_290 : decode cL_types 290 = .ok (.iload_n 1, 1) := by decide +kernel
theorem dL_types_291 : decode cL_types 291 = .ok (.bipush 24, 2) := by decide +kernel
theorem dL_types_293 : decode cL_types 293 = .ok (.ishr, 1) := by decide +kernel
theorem dL_types_294 : decode cL_types 294 = .ok (.bipush 7, 2) := by decide +kernel
theorem dL_types_296 : decode cL_types 296 = .ok (.invokestatic 38, 3) := by decide +kernel
theorem dL_types_299 : decode cL_types 299 = .ok (.ifCond .ne 11, 3) := by decide +kernel
theorem dL_types_302 : decode cL_types 302 = .ok (.iload 4, 2) := by decide +kernel
theorem dL_types_304 : decode cL_types 304 = .ok (.iload_n 2, 1) := by decide +kernel
theorem dL_types_305 : decode cL_types 305 = .ok (.iconst 1, 1) := by decide +kernel
theorem dL_types_306 : decode cL_types 306 = .ok (.isub, 1) := by decide +kernel
theorem dL_types_307 : decode cL_types 307 = .ok (.if_icmp .eq 12, 3) := by decide +kernel
theorem dL_types_310 : decode cL_types 310 = .ok (.aload_n 0, 1) := by decide +kernel
theorem dL_types_311 : decode cL_types 311 = .ok (.bipush 59, 2) := by decide +kernel
theorem dL_types_313 : decode cL_types 313 = .ok (.invokevirtual 35, 3) := by decide +kernel
theorem dL_types_316 : decode cL_types 316 = .ok (.ifCond .le 7, 3) := by decide +kernel
theorem dL_types_319 : decode cL_types 319 = .ok (.iconst 1, 1) := by decide +kernel
theorem dL_types_320 : decode cL_types 320 = .ok (.goto 4, 3) := by decide +kernel
theorem dL_types_323 : decode cL_types 323 = .ok (.iconst 0, 1) := by decide +kernel
theorem dL_types_324 : decode cL_types 324 = .ok (.istore_n 3, 1) := by decide +kernel
theorem dL_types_325 : decode cL_types 325 = .ok (.iinc 4 1, 3) := by decide +kernel
theorem dL_types_328 : decode cL_types 328 = .ok (.goto (-305), 3) := by decide +kernel
theorem dL_types_331 : decode cL_types 331 = .ok (.iload_n 3, 1) := by decide +kernel
theorem dL_types_332 : decode cL_types 332 = .ok (.ireturn, 1) := by decide +kernel
theorem dL_reads_0 : decode cL_reads 0 = .ok (.aload_n 0, 1) := by decide +kernel
theorem dL_reads_1 : decode cL_reads 1 = .ok (.iconst 0, 1) := by decide +kernel
theorem dL_reads_2 : decode cL_reads 2 = .ok (.invokevirtual 49, 3) := by decide +kernel
theorem dL_reads_5 : decode cL_reads 5 = .ok (.istore_n 1, 1) := by decide +kernel
theorem dL_reads_6 : decode cL_reads 6 = .ok (.aload_n 0, 1) := by decide +kernel
theorem dL_reads_7 : decode cL_reads 7 = .ok (.iconst 1, 1) := by decide +kernel
theorem dL_reads_8 : decode cL_reads 8 = .ok (.invokevirtual 49, 3) := by decide +kernel
theorem dL_reads_11 : decode cL_reads 11 = .ok (.istore_n 2, 1) := by decide +kernel
theorem dL_reads_12 : decode cL_reads 12 = .ok (.aload_n 0, 1) := by decide +kernel
theorem dL_reads_13 : decode cL_reads 13 = .ok (.iconst 2, 1) := by decide +kernel
theorem dL_reads_14 : decode cL_reads 14 = .ok (.invokevirtual 49, 3) := by decide +kernel
theorem dL_reads_17 : decode cL_reads 17 = .ok (.istore_n 3, 1) := by decide +kernel
theorem dL_reads_18 : decode cL_reads 18 = .ok (.aload_n 0, 1) := by decide +kernel
theorem dL_reads_19 : decode cL_reads 19 = .ok (.bipush 17, 2) := by decide +kernel
theorem dL_reads_21 : decode cL_reads 21 = .ok (.invokevirtual 13, 3) := by decide +kernel
theorem dL_reads_24 : decode cL_reads 24 = .ok (.istore 4, 2) := by decide +kernel
theorem dL_reads_26 : decode cL_reads 26 = .ok (.aload_n 0, 1) := by decide +kernel
theorem dL_reads_27 : decode cL_reads 27 = .ok (.invokevirtual 52, 3) := by decide +kernel
theorem dL_reads_30 : decode cL_reads 30 = .ok (.istore 5, 2) := by decide +kernel
theorem dL_reads_32 : decode cL_reads 32 = .ok (.iload_n 1, 1) := by decide +kernel
theorem dL_reads_33 : decode cL_reads 33 = .ok (.bipush (-4), 2) := by decide +kernel
theorem dL_reads_35 : decode cL_reads 35 = .ok (.if_icmp .ne 33, 3) := by decide +kernel
theorem dL_reads_38 : decode cL_reads 38 = .ok (.iload_n 2, 1) := by decide +kernel
theorem dL_reads_39 : decode cL_reads 39 = .ok (.bipush (-4), 2) := by decide +kernel
theorem dL_reads_41 : decode cL_reads 41 = .ok (.if_icmp .ne 27, 3) := by decide +kernel
theorem dL_reads_44 : decode cL_reads 44 = .ok (.iload_n 3, 1) := by decide +kernel
theorem dL_reads_45 : decode cL_reads 45 = .ok (.bipush (-4), 2) := by decide +kernel
theorem dL_reads_47 : decode cL_reads 47 = .ok (.if_icmp .ne 21, 3) := by decide +kernel
theorem dL_reads_50 : decode cL_reads 50 = .ok (.iload 5, 2) := by decide +kernel
theorem dL_reads_52 : decode cL_reads 52 = .ok (.ifCond .lt 16, 3) := by decide +kernel
theorem dL_reads_55 : decode cL_reads 55 = .ok (.iconst 2, 1) := by decide +kernel
theorem dL_reads_56 : decode cL_reads 56 = .ok (.iload 5, 2) := by decide +kernel
theorem dL_reads_58 : decode cL_reads 58 = .ok (.imul, 1) := by decide +kernel
theorem dL_reads_59 : decode cL_reads 59 = .ok (.iload 4, 2) := by decide +kernel
theorem dL_reads_61 : decode cL_reads 61 = .ok (.if_icmp .gt 7, 3) := by decide +kernel
theorem dL_reads_64 : decode cL_reads 64 = .ok (.iconst 1, 1) := by decide +kernel
theorem dL_reads_65 : decode cL_reads 65 = .ok (.goto 4, 3) := by decide +kernel
theorem dL_reads_68 : decode cL_reads 68 = .ok (.iconst 0, 1) := by decide +kernel
theorem dL_reads_69 : decode cL_reads 69 = .ok (.istore 6, 2) := by decide +kernel
theorem dL_reads_71 : decode cL_reads 71 = .ok (.iload_n 1, 1) := by decide +kernel
theorem dL_reads_72 : decode cL_reads 72 = .ok (.ifCond .lt 46, 3) := by decide +kernel
theorem dL_reads_75 : decode cL_reads 75 = .ok (.iload_n 1, 1) := by decide +kernel
theorem dL_reads_76 : decode cL_reads 76 = .ok (.iload 4, 2) := by decide +kernel
theorem dL_reads_78 : decode cL_reads 78 = .ok (.if_icmp .ge 40, 3) := by decide +kernel
theorem dL_reads_81 : decode cL_reads 81 = .ok (.iload 5, 2) := by decide +kernel
theorem dL_reads_83 : decode cL_reads 83 = .ok (.bipush (-2), 2) := by decide +kernel
theorem dL_reads_85 : decode cL_reads 85 = .ok (.if_icmp .ne 33, 3) := by decide +kernel
theorem dL_reads_88 : decode cL_reads 88 = .ok (.iload_n 2, 1) := by decide +kernel
theorem dL_reads_89 : decode cL_reads 89 = .ok (.iconst 1, 1) := by decide +kernel
theorem dL_reads_90 : decode cL_reads 90 = .ok (.if_icmp .ne 9, 3) := by decide +kernel
theorem dL_reads_93 : decode cL_reads 93 = .ok (.iload_n 3, 1) := by decide +kernel
theorem dL_reads_94 : decode cL_reads 94 = .ok (.bipush (-4), 2) := by decide +kernel
theorem dL_reads_96 : decode cL_reads 96 = .ok (.if_icmp .eq 18, 3) := by decide +kernel
theorem dL_reads_99 : decode cL_reads 99 = .ok (.iload_n 2, 1) := by decide +kernel
theorem dL_reads_100 : decode cL_reads 100 = .ok (.iconst 2, 1) := by decide +kernel
theorem dL_reads_101 : decode cL_reads 101 = .ok (.if_icmp .ne 17, 3) := by decide +kernel
theorem dL_reads_104 : decode cL_reads 104 = .ok (.iload_n 3, 1) := by decide +kernel
theorem dL_reads_105 : decode cL_reads 105 = .ok (.ifCond .ge 13, 3) := by decide +kernel
theorem dL_reads_108 : decode cL_reads 108 = .ok (.iload_n 3, 1) := by decide +kernel
theorem dL_reads_109 : decode cL_reads 109 = .ok (.bipush (-4), 2) := by decide +kernel
theorem dL_reads_111 : decode cL_reads 111 = .ok (.if_icmp .le 7, 3) := by decide +kernel
theorem dL_reads_114 : decode cL_reads 114 = .ok (.iconst 1, 1) := by decide +kernel
theorem dL_reads_115 : decode cL_reads 115 = .ok (.goto 4, 3) := by decide +kernel
theorem dL_reads_118 : decode cL_reads 118 = .ok (.iconst 0, 1) := by decide +kernel
theorem dL_reads_119 : decode cL_reads 119 = .ok (.istore 7, 2) := by decide +kernel
theorem dL_reads_121 : decode cL_reads 121 = .ok (.iload 6, 2) := by decide +kernel
theorem dL_reads_123 : decode cL_reads 123 = .ok (.ifCond .ne 8, 3) := by decide +kernel
theorem dL_reads_126 : decode cL_reads 126 = .ok (.iload 7, 2) := by decide +kernel
theorem dL_reads_128 : decode cL_reads 128 = .ok (.ifCond .eq 18, 3) := by decide +kernel
theorem dL_reads_131 : decode cL_reads 131 = .ok (.aload_n 0, 1) := by decide +kernel
theorem dL_reads_132 : decode cL_reads 132 = .ok (.bipush 17, 2) := by decide +kernel
theorem dL_reads_134 : decode cL_reads 134 = .ok (.invokevirtual 13, 3) := by decide +kernel
theorem dL_reads_137 : decode cL_reads 137 = .ok (.iload 4, 2) := by decide +kernel
theorem dL_reads_139 : decode cL_reads 139 = .ok (.if_icmp .ne 7, 3) := by decide +kernel
theorem dL_reads_142 : decode cL_reads 142 = .ok (.iconst 1, 1) := by decide +kernel
theorem dL_reads_143 : decode cL_reads 143 = .ok (.goto 4, 3) := by decide +kernel
theorem dL_reads_146 : decode cL_reads 146 = .ok (.iconst 0, 1) := by decide +kernel
theorem dL_reads_147 : decode cL_reads 147 = .ok (.ireturn, 1) := by decide +kernel
theorem dL_acts_0 : decode cL_acts 0 = .ok (.iload_n 1, 1) := by decide +kernel
theorem dL_acts_1 : decode cL_acts 1 = .ok (.bipush 18, 2) := by decide +kernel
theorem dL_acts_3 : decode cL_acts 3 = .ok (.invokestatic 38, 3) := by decide +kernel
theorem dL_acts_6 : decode cL_acts 6 = .ok (.istore_n 3, 1) := by decide +kernel
theorem dL_acts_7 : decode cL_acts 7 = .ok (.aload_n 0, 1) := by decide +kernel
theorem dL_acts_8 : decode cL_acts 8 = .ok (.iconst 1, 1) := by decide +kernel
theorem dL_acts_9 : decode cL_acts 9 = .ok (.invokevirtual 13, 3) := by decide +kernel
theorem dL_acts_12 : decode cL_acts 12 = .ok (.ifCond .ne 7, 3) := by decide +kernel
theorem dL_acts_15 : decode cL_acts 15 = .ok (.iconst 1, 1) := by decide +kernel
theorem dL_acts_16 : decode cL_acts 16 = .ok (.goto 4, 3) := by decide +kernel
theorem dL_acts_19 : decode cL_acts 19 = .ok (.iconst 0, 1) := by decide +kernel
theorem dL_acts_20 : decode cL_acts 20 = .ok (.istore 4, 2) := by decide +kernel
theorem dL_acts_22 : decode cL_acts 22 = .ok (.iload_n 3, 1) := by decide +kernel
theorem dL_acts_23 : decode cL_acts 23 = .ok (.bipush 6, 2) := by decide +kernel
theorem dL_acts_25 : decode cL_acts 25 = .ok (.if_icmp .ge 109, 3) := by decide +kernel
theorem dL_acts_28 : decode cL_acts 28 = .ok (.iload_n 2, 1) := by decide +kernel
theorem dL_acts_29 : decode cL_acts 29 = .ok (.bipush 13, 2) := by decide +kernel
theorem dL_acts_31 : decode cL_acts 31 = .ok (.invokestatic 38, 3) := by decide +kernel
theorem dL_acts_34 : decode cL_acts 34 = .ok (.istore 5, 2) := by decide +kernel
theorem dL_acts_36 : decode cL_acts 36 = .ok (.iload_n 2, 1) := by decide +kernel
theorem dL_acts_37 : decode cL_acts 37 = .ok (.iconst 4, 1) := by decide +kernel
theorem dL_acts_38 : decode cL_acts 38 = .ok (.ishr, 1) := by decide +kernel
theorem dL_acts_39 : decode cL_acts 39 = .ok (.sipush 1001, 3) := by decide +kernel
theorem dL_acts_42 : decode cL_acts 42 = .ok (.invokestatic 38, 3) := by decide +kernel
theorem dL_acts_45 : decode cL_acts 45 = .ok (.istore 6, 2) := by decide +kernel
theorem dL_acts_47 : decode cL_acts 47 = .ok (.iload_n 2, 1) := by decide +kernel
theorem dL_acts_48 : decode cL_acts 48 = .ok (.bipush 15, 2) := by decide +kernel
theorem dL_acts_50 : decode cL_acts 50 = .ok (.ishr, 1) := by decide +kernel
theorem dL_acts_51 : decode cL_acts 51 = .ok (.iconst 3, 1) := by decide +kernel
theorem dL_acts_52 : decode cL_acts 52 = .ok (.invokestatic 38, 3) := by decide +kernel
theorem dL_acts_55 : decode cL_acts 55 = .ok (.istore 7, 2) := by decide +kernel
theorem dL_acts_57 : decode cL_acts 57 = .ok (.aload_n 0, 1) := by decide +kernel
theorem dL_acts_58 : decode cL_acts 58 = .ok (.iconst 4, 1) := by decide +kernel
theorem dL_acts_59 : decode cL_acts 59 = .ok (.invokevirtual 13, 3) := by decide +kernel
theorem dL_acts_62 : decode cL_acts 62 = .ok (.istore 8, 2) := by decide +kernel
theorem dL_acts_64 : decode cL_acts 64 = .ok (.aload_n 0, 1) := by decide +kernel
theorem dL_acts_65 : decode cL_acts 65 = .ok (.iload 5, 2) := by decide +kernel
theorem dL_acts_67 : decode cL_acts 67 = .ok (.iload 6, 2) := by decide +kernel
theorem dL_acts_69 : decode cL_acts 69 = .ok (.iload 7, 2) := by decide +kernel
theorem dL_acts_71 : decode cL_acts 71 = .ok (.invokevirtual 55, 3) := by decide +kernel
theorem dL_acts_74 : decode cL_acts 74 = .ok (.iload 5, 2) := by decide +kernel
theorem dL_acts_76 : decode cL_acts 76 = .ok (.bipush 12, 2) := by decide +kernel
theorem dL_acts_78 : decode cL_acts 78 = .ok (.if_icmp .eq 17, 3) := by decide +kernel
theorem dL_acts_81 : decode cL_acts 81 = .ok (.iload 6, 2) := by decide +kernel
theorem dL_acts_83 : decode cL_acts 83 = .ok (.sipush 1000, 3) := by decide +kernel
theorem dL_acts_86 : decode cL_acts 86 = .ok (.if_icmp .eq 9, 3) := by decide +kernel
theorem dL_acts_89 : decode cL_acts 89 = .ok (.iload 7, 2) := by decide +kernel
theorem dL_acts_91 : decode cL_acts 91 = .ok (.iconst 2, 1) := by decide +kernel
theorem dL_acts_92 : decode cL_acts 92 = .ok (.if_icmp .ne 7, 3) := by decide +kernel
theorem dL_acts_95 : decode cL_acts 95 = .ok (.iconst (-1), 1) := by decide +kernel
theorem dL_acts_96 : decode cL_acts 96 = .ok (.goto 29, 3) := by decide +kernel
theorem dL_acts_99 : decode cL_acts 99 = .ok (.iload 4, 2) := by decide +kernel
theorem dL_acts_101 : decode cL_acts 101 = .ok (.ifCond .eq 8, 3) := by decide +kernel
theorem dL_acts_104 : decode cL_acts 104 = .ok (.bipush (-2), 2) := by decide +kernel
theorem dL_acts_106 : decode cL_acts 106 = .ok (.goto 19, 3) := by decide +kernel
theorem dL_acts_109 : decode cL_acts 109 = .ok (.iload 8, 2) := by decide +kernel
theorem dL_acts_111 : decode cL_acts 111 = .ok (.bipush 8, 2) := by decide +kernel
theorem dL_acts_113 : decode cL_acts 113 = .ok (.if_icmp .ne 8, 3) := by decide +kernel
theorem dL_acts_116 : decode cL_acts 116 = .ok (.bipush (-3), 2) := by decide +kernel
theorem dL_acts_118 : decode cL_acts 118 = .ok (.goto 7, 3) := by decide +kernel
theorem dL_acts_121 : decode cL_acts 121 = .ok (.iload 8, 2) := by decide +kernel
theorem dL_acts_123 : decode cL_acts 123 = .ok (.iconst 1, 1) := by decide +kernel
theorem dL_acts_124 : decode cL_acts 124 = .ok (.iadd, 1) := by decide +kernel
theorem dL_acts_125 : decode cL_acts 125 = .ok (.if_icmp .ne 7, 3) := by decide +kernel
theorem dL_acts_128 : decode cL_acts 128 = .ok (.iconst 1, 1) := by decide +kernel
theorem dL_acts_129 : decode cL_acts 129 = .ok (.goto 4, 3) := by decide +kernel
theorem dL_acts_132 : decode cL_acts 132 = .ok (.iconst 0, 1) := by decide +kernel
theorem dL_acts_133 : decode cL_acts 133 = .ok (.ireturn, 1) := by decide +kernel
theorem dL_acts_134 : decode cL_acts 134 = .ok (.iload_n 3, 1) := by decide +kernel
theorem dL_acts_135 : decode cL_acts 135 = .ok (.bipush 10, 2) := by decide +kernel
theorem dL_acts_137 : decode cL_acts 137 = .ok (.if_icmp .ge 164, 3) := by decide +kernel
theorem dL_acts_140 : decode cL_acts 140 = .ok (.iload_n 2, 1) := by decide +kernel
theorem dL_acts_141 : decode cL_acts 141 = .ok (.iconst 5, 1) := by decide +kernel
theorem dL_acts_142 : decode cL_acts 142 = .ok (.invokestatic 38, 3) := by decide +kernel
theorem dL_acts_145 : decode cL_acts 145 = .ok (.ifCond .ne 15, 3) := by decide +kernel
theorem dL_acts_148 : decode cL_acts 148 = .ok (.iload_n 2, 1) := by decide +kernel
theorem dL_acts_149 : decode cL_acts 149 = .ok (.iconst 3, 1) := by decide +kernel
theorem dL_acts_150 : decode cL_acts 150 = .ok (.ishr, 1) := by decide +kernel
theorem dL_acts_151 : decode cL_acts 151 = .ok (.sipush 202, 3) := by decide +kernel
theorem dL_acts_154 : decode cL_acts 154 = .ok (.invokestatic 38, 3) := by decide +kernel
theorem dL_acts_157 : decode cL_acts 157 = .ok (.goto 13, 3) := by decide +kernel
theorem dL_acts_160 : decode cL_acts 160 = .ok (.iconst 1, 1) := by decide +kernel
theorem dL_acts_161 : decode cL_acts 161 = .ok (.iload_n 2, 1) := by decide +kernel
theorem dL_acts_162 : decode cL_acts 162 = .ok (.iconst 3, 1) := by decide +kernel
theorem dL_acts_163 : decode cL_acts 163 = .ok (.ishr, 1) := by decide +kernel
theorem dL_acts_164 : decode cL_acts 164 = .ok (.bipush 9, 2) := by decide +kernel
theorem dL_acts_166 : decode cL_acts 166 = .ok (.invokestatic 38, 3) := by decide +kernel
theorem dL_acts_169 : decode cL_acts 169 = .ok (.iadd, 1) := by decide +kernel
theorem dL_acts_170 : decode cL_acts 170 = .ok (.istore 5, 2) := by decide +kernel
theorem dL_acts_172 : decode cL_acts 172 = .ok (.aload_n 0, 1) := by decide +kernel
theorem dL_acts_173 : decode cL_acts 173 = .ok (.iconst 0, 1) := by decide +kernel
theorem dL_acts_174 : decode cL_acts 174 = .ok (.invokevirtual 13, 3) := by decide +kernel
theorem dL_acts_177 : decode cL_acts 177 = .ok (.istore 6, 2) := by decide +kernel
theorem dL_acts_179 : decode cL_acts 179 = .ok (.aload_n 0, 1) := by decide +kernel
theorem dL_acts_180 : decode cL_acts 180 = .ok (.bipush 7, 2) := by decide +kernel
theorem dL_acts_182 : decode cL_acts 182 = .ok (.invokevirtual 13, 3) := by decide +kernel
theorem dL_acts_185 : decode cL_acts 185 = .ok (.istore 7, 2) := by decide +kernel
theorem dL_acts_187 : decode cL_acts 187 = .ok (.aload_n 0, 1) := by decide +kernel
theorem dL_acts_188 : decode cL_acts 188 = .ok (.iload 5, 2) := by decide +kernel
theorem dL_acts_190 : decode cL_acts 190 = .ok (.invokevirtual 58, 3) := by decide +kernel
theorem dL_acts_193 : decode cL_acts 193 = .ok (.istore 8, 2) := by decide +kernel
theorem dL_acts_195 : decode cL_acts 195 = .ok (.iload 5, 2) := by decide +kernel
theorem dL_acts_197 : decode cL_acts 197 = .ok (.ifCond .eq 11, 3) := by decide +kernel
theorem dL_acts_200 : decode cL_acts 200 = .ok (.iload 5, 2) := by decide +kernel
theorem dL_acts_202 : decode cL_acts 202 = .ok (.sipush 201, 3) := by decide +kernel
theorem dL_acts_205 : decode cL_acts 205 = .ok (.if_icmp .ne 17, 3) := by decide +kernel
theorem dL_acts_208 : decode cL_acts 208 = .ok (.iload 8, 2) := by decide +kernel
theorem dL_acts_210 : decode cL_acts 210 = .ok (.iconst (-1), 1) := by decide +kernel
theorem dL_acts_211 : decode cL_acts 211 = .ok (.if_icmp .ne 7, 3) := by decide +kernel
theorem dL_acts_214 : decode cL_acts 214 = .ok (.iconst 1, 1) := by decide +kernel
theorem dL_acts_215 : decode cL_acts 215 = .ok (.goto 85, 3) := by decide +kernel
theorem dL_acts_218 : decode cL_acts 218 = .ok (.iconst 0, 1) := by decide +kernel
theorem dL_acts_219 : decode cL_acts 219 = .ok (.goto 81, 3) := by decide +kernel
theorem dL_acts_222 : decode cL_acts 222 = .ok (.iload 4, 2) := by decide +kernel
theorem dL_acts_224 : decode cL_acts 224 = .ok (.ifCond .eq 18, 3) := by decide +kernel
theorem dL_acts_227 : decode cL_acts 227 = .ok (.iload 8, 2) := by decide +kernel
theorem dL_acts_229 : decode cL_acts 229 = .ok (.bipush (-2), 2) := by decide +kernel
theorem dL_acts_231 : decode cL_acts 231 = .ok (.if_icmp .ne 7, 3) := by decide +kernel
theorem dL_acts_234 : decode cL_acts 234 = .ok (.iconst 1, 1) := by decide +kernel
theorem dL_acts_235 : decode cL_acts 235 = .ok (.goto 65, 3) := by decide +kernel
theorem dL_acts_238 : decode cL_acts 238 = .ok (.iconst 0, 1) := by decide +kernel
theorem dL_acts_239 : decode cL_acts 239 = .ok (.goto 61, 3) := by decide +kernel
theorem dL_acts_242 : decode cL_acts 242 = .ok (.iload 8, 2) := by decide +kernel
theorem dL_acts_244 : decode cL_acts 244 = .ok (.bipush (-3), 2) := by decide +kernel
theorem dL_acts_246 : decode cL_acts 246 = .ok (.if_icmp .ne 22, 3) := by decide +kernel
theorem dL_acts_249 : decode cL_acts 249 = .ok (.iload 6, 2) := by decide +kernel
theorem dL_acts_251 : decode cL_acts 251 = .ok (.iload 5, 2) := by decide +kernel
theorem dL_acts_253 : decode cL_acts 253 = .ok (.iadd, 1) := by decide +kernel
theorem dL_acts_254 : decode cL_acts 254 = .ok (.sipush 9000, 3) := by decide +kernel
theorem dL_acts_257 : decode cL_acts 257 = .ok (.if_icmp .le 7, 3) := by decide +kernel
theorem dL_acts_260 : decode cL_acts 260 = .ok (.iconst 1, 1) := by decide +kernel
theorem dL_acts_261 : decode cL_acts 261 = .ok (.goto 39, 3) := by decide +kernel
theorem dL_acts_264 : decode cL_acts 264 = .ok (.iconst 0, 1) := by decide +kernel
theorem dL_acts_265 : decode cL_acts 265 = .ok (.goto 35, 3) := by decide +kernel
theorem dL_acts_268 : decode cL_acts 268 = .ok (.aload_n 0, 1) := by decide +kernel
theorem dL_acts_269 : decode cL_acts 269 = .ok (.bipush 7, 2) := by decide +kernel
theorem dL_acts_271 : decode cL_acts 271 = .ok (.invokevirtual 13, 3) := by decide +kernel
theorem dL_acts_274 : decode cL_acts 274 = .ok (.iload 7, 2) := by decide +kernel
theorem dL_acts_276 : decode cL_acts 276 = .ok (.iload 8, 2) := by decide +kernel
theorem dL_acts_278 : decode cL_acts 278 = .ok (.iadd, 1) := by decide +kernel
theorem dL_acts_279 : decode cL_acts 279 = .ok (.if_icmp .ne 20, 3) := by decide +kernel
theorem dL_acts_282 : decode cL_acts 282 = .ok (.aload_n 0, 1) := by decide +kernel
theorem dL_acts_283 : decode cL_acts 283 = .ok (.iconst 0, 1) := by decide +kernel
theorem dL_acts_284 : decode cL_acts 284 = .ok (.invokevirtual 13, 3) := by decide +kernel
theorem dL_acts_287 : decode cL_acts 287 = .ok (.iload 6, 2) := by decide +kernel
theorem dL_acts_289 : decode cL_acts 289 = .ok (.iload 5, 2) := by decide +kernel
theorem dL_acts_291 : decode cL_acts 291 = .ok (.iadd, 1) := by decide +kernel
theorem dL_acts_292 : decode cL_acts 292 = .ok (.if_icmp .ne 7, 3) := by decide +kernel
theorem dL_acts_295 : decode cL_acts 295 = .ok (.iconst 1, 1) := by decide +kernel
theorem dL_acts_296 : decode cL_acts 296 = .ok (.goto 4, 3) := by decide +kernel
theorem dL_acts_299 : decode cL_acts 299 = .ok (.iconst 0, 1) := by decide +kernel
theorem dL_acts_300 : decode cL_acts 300 = .ok (.ireturn, 1) := by decide +kernel
theorem dL_acts_301 : decode cL_acts 301 = .ok (.iload_n 3, 1) := by decide +kernel
theorem dL_acts_302 : decode cL_acts 302 = .ok (.bipush 10, 2) := by decide +kernel
theorem dL_acts_304 : decode cL_acts 304 = .ok (.if_icmp .ne 70, 3) := by decide +kernel
theorem dL_acts_307 : decode cL_acts 307 = .ok (.aload_n 0, 1) := by decide +kernel
theorem dL_acts_308 : decode cL_acts 308 = .ok (.bipush 9, 2) := by decide +kernel
theorem dL_acts_310 : decode cL_acts 310 = .ok (.invokevirtual 13, 3) := by decide +kernel
theorem dL_acts_313 : decode cL_acts 313 = .ok (.istore 5, 2) := by decide +kernel
theorem dL_acts_315 : decode cL_acts 315 = .ok (.aload_n 0, 1) := by decide +kernel
theorem dL_acts_316 : decode cL_acts 316 = .ok (.invokevirtual 61, 3) := by decide +kernel
theorem dL_acts_319 : decode cL_acts 319 = .ok (.istore 6, 2) := by decide +kernel
theorem dL_acts_321 : decode cL_acts 321 = .ok (.iload 4, 2) := by decide +kernel
theorem dL_acts_323 : decode cL_acts 323 = .ok (.ifCond .eq 18, 3) := by decide +kernel
theorem dL_acts_326 : decode cL_acts 326 = .ok (.iload 6, 2) := by decide +kernel
theorem dL_acts_328 : decode cL_acts 328 = .ok (.bipush (-2), 2) := by decide +kernel
theorem dL_acts_330 : decode cL_acts 330 = .ok (.if_icmp .ne 7, 3) := by decide +kernel
theorem dL_acts_333 : decode cL_acts 333 = .ok (.iconst 1, 1) := by decide +kernel
theorem dL_acts_334 : decode cL_acts 334 = .ok (.goto 39, 3) := by decide +kernel
theorem dL_acts_337 : decode cL_acts 337 = .ok (.iconst 0, 1) := by decide +kernel
theorem dL_acts_338 : decode cL_acts 338 = .ok (.goto 35, 3) := by decide +kernel
theorem dL_acts_341 : decode cL_acts 341 = .ok (.iload 6, 2) := by decide +kernel
theorem dL_acts_343 : decode cL_acts 343 = .ok (.ifCond .lt 29, 3) := by decide +kernel
theorem dL_acts_346 : decode cL_acts 346 = .ok (.aload_n 0, 1) := by decide +kernel
theorem dL_acts_347 : decode cL_acts 347 = .ok (.bipush 9, 2) := by decide +kernel
theorem dL_acts_349 : decode cL_acts 349 = .ok (.invokevirtual 13, 3) := by decide +kernel
theorem dL_acts_352 : decode cL_acts 352 = .ok (.iload 5, 2) := by decide +kernel
theorem dL_acts_354 : decode cL_acts 354 = .ok (.iload 6, 2) := by decide +kernel
theorem dL_acts_356 : decode cL_acts 356 = .ok (.iadd, 1) := by decide +kernel
theorem dL_acts_357 : decode cL_acts 357 = .ok (.if_icmp .ne 15, 3) := by decide +kernel
theorem dL_acts_360 : decode cL_acts 360 = .ok (.aload_n 0, 1) := by decide +kernel
theorem dL_acts_361 : decode cL_acts 361 = .ok (.iconst 1, 1) := by decide +kernel
theorem dL_acts_362 : decode cL_acts 362 = .ok (.invokevirtual 13, 3) := by decide +kernel
theorem dL_acts_365 : decode cL_acts 365 = .ok (.ifCond .ne 7, 3) := by decide +kernel
theorem dL_acts_368 : decode cL_acts 368 = .ok (.iconst 1, 1) := by decide +kernel
theorem dL_acts_369 : decode cL_acts 369 = .ok (.goto 4, 3) := by decide +kernel
theorem dL_acts_372 : decode cL_acts 372 = .ok (.iconst 0, 1) := by decide +kernel
theorem dL_acts_373 : decode cL_acts 373 = .ok (.ireturn, 1) := by decide +kernel
theorem dL_acts_374 : decode cL_acts 374 = .ok (.iload_n 3, 1) := by decide +kernel
theorem dL_acts_375 : decode cL_acts 375 = .ok (.bipush 13, 2) := by decide +kernel
theorem dL_acts_377 : decode cL_acts 377 = .ok (.if_icmp .ge 54, 3) := by decide +kernel
theorem dL_acts_380 : decode cL_acts 380 = .ok (.aload_n 0, 1) := by decide +kernel
theorem dL_acts_381 : decode cL_acts 381 = .ok (.invokevirtual 64, 3) := by decide +kernel
theorem dL_acts_384 : decode cL_acts 384 = .ok (.istore 5, 2) := by decide +kernel
theorem dL_acts_386 : decode cL_acts 386 = .ok (.iload 4, 2) := by decide +kernel
theorem dL_acts_388 : decode cL_acts 388 = .ok (.ifCond .eq 30, 3) := by decide +kernel
theorem dL_acts_391 : decode cL_acts 391 = .ok (.iload 5, 2) := by decide +kernel
theorem dL_acts_393 : decode cL_acts 393 = .ok (.aload_n 0, 1) := by decide +kernel
theorem dL_acts_394 : decode cL_acts 394 = .ok (.iconst 4, 1) := by decide +kernel
theorem dL_acts_395 : decode cL_acts 395 = .ok (.invokevirtual 13, 3) := by decide +kernel
theorem dL_acts_398 : decode cL_acts 398 = .ok (.if_icmp .ne 16, 3) := by decide +kernel
theorem dL_acts_401 : decode cL_acts 401 = .ok (.aload_n 0, 1) := by decide +kernel
theorem dL_acts_402 : decode cL_acts 402 = .ok (.iconst 1, 1) := by decide +kernel
theorem dL_acts_403 : decode cL_acts 403 = .ok (.invokevirtual 13, 3) := by decide +kernel
theorem dL_acts_406 : decode cL_acts 406 = .ok (.iconst 1, 1) := by decide +kernel
theorem dL_acts_407 : decode cL_acts 407 = .ok (.if_icmp .ne 7, 3) := by decide +kernel
theorem dL_acts_410 : decode cL_acts 410 = .ok (.iconst 1, 1) := by decide +kernel
theorem dL_acts_411 : decode cL_acts 411 = .ok (.goto 19, 3) := by decide +kernel
theorem dL_acts_414 : decode cL_acts 414 = .ok (.iconst 0, 1) := by decide +kernel
theorem dL_acts_415 : decode cL_acts 415 = .ok (.goto 15, 3) := by decide +kernel
theorem dL_acts_418 : decode cL_acts 418 = .ok (.iload 5, 2) := by decide +kernel
theorem dL_acts_420 : decode cL_acts 420 = .ok (.bipush (-2), 2) := by decide +kernel
theorem dL_acts_422 : decode cL_acts 422 = .ok (.if_icmp .ne 7, 3) := by decide +kernel
theorem dL_acts_425 : decode cL_acts 425 = .ok (.iconst 1, 1) := by decide +kernel
theorem dL_acts_426 : decode cL_acts 426 = .ok (.goto 4, 3) := by decide +kernel
theorem dL_acts_429 : decode cL_acts 429 = .ok (.iconst 0, 1) := by decide +kernel
theorem dL_acts_430 : decode cL_acts 430 = .ok (.ireturn, 1) := by decide +kernel
theorem dL_acts_431 : decode cL_acts 431 = .ok (.iload_n 3, 1) := by decide +kernel
theorem dL_acts_432 : decode cL_acts 432 = .ok (.bipush 13, 2) := by decide +kernel
theorem dL_acts_434 : decode cL_acts 434 = .ok (.if_icmp .ne 99, 3) := by decide +kernel
theorem dL_acts_437 : decode cL_acts 437 = .ok (.aload_n 0, 1) := by decide +kernel
theorem dL_acts_438 : decode cL_acts 438 = .ok (.iconst 2, 1) := by decide +kernel
theorem dL_acts_439 : decode cL_acts 439 = .ok (.invokevirtual 13, 3) := by decide +kernel
theorem dL_acts_442 : decode cL_acts 442 = .ok (.istore 5, 2) := by decide +kernel
theorem dL_acts_444 : decode cL_acts 444 = .ok (.iload 4, 2) := by decide +kernel
theorem dL_acts_446 : decode cL_acts 446 = .ok (.ifCond .ne 15, 3) := by decide +kernel
theorem dL_acts_449 : decode cL_acts 449 = .ok (.aload_n 0, 1) := by decide +kernel
theorem dL_acts_450 : decode cL_acts 450 = .ok (.iconst 5, 1) := by decide +kernel
theorem dL_acts_451 : decode cL_acts 451 = .ok (.invokevirtual 13, 3) := by decide +kernel
theorem dL_acts_454 : decode cL_acts 454 = .ok (.ifCond .ne 7, 3) := by decide +kernel
theorem dL_acts_457 : decode cL_acts 457 = .ok (.iconst 1, 1) := by decide +kernel
theorem dL_acts_458 : decode cL_acts 458 = .ok (.goto 4, 3) := by decide +kernel
theorem dL_acts_461 : decode cL_acts 461 = .ok (.iconst 0, 1) := by decide +kernel
theorem dL_acts_462 : decode cL_acts 462 = .ok (.istore 6, 2) := by decide +kernel
theorem dL_acts_464 : decode cL_acts 464 = .ok (.iconst 0, 1) := by decide +kernel
theorem dL_acts_465 : decode cL_acts 465 = .ok (.istore 7, 2) := by decide +kernel
theorem dL_acts_467 : decode cL_acts 467 = .ok (.iload 7, 2) := by decide +kernel
theorem dL_acts_469 : decode cL_acts 469 = .ok (.bipush 16, 2) := by decide +kernel
theorem dL_acts_471 : decode cL_acts 471 = .ok (.if_icmp .ge 35, 3) := by decide +kernel
theorem dL_acts_474 : decode cL_acts 474 = .ok (.iload 6, 2) := by decide +kernel
theorem dL_acts_476 : decode cL_acts 476 = .ok (.ifCond .eq 21, 3) := by decide +kernel
theorem dL_acts_479 : decode cL_acts 479 = .ok (.aload_n 0, 1) := by decide +kernel
theorem dL_acts_480 : decode cL_acts 480 = .ok (.iconst 1, 1) := by decide +kernel
theorem dL_acts_481 : decode cL_acts 481 = .ok (.iload 5, 2) := by decide +kernel
theorem dL_acts_483 : decode cL_acts 483 = .ok (.isub, 1) := by decide +kernel
theorem dL_acts_484 : decode cL_acts 484 = .ok (.iload 7, 2) := by decide +kernel
theorem dL_acts_486 : decode cL_acts 486 = .ok (.iconst 0, 1) := by decide +kernel
theorem dL_acts_487 : decode cL_acts 487 = .ok (.invokevirtual 19, 3) := by decide +kernel
theorem dL_acts_490 : decode cL_acts 490 = .ok (.ifCond .ne 7, 3) := by decide +kernel
theorem dL_acts_493 : decode cL_acts 493 = .ok (.iconst 1, 1) := by decide +kernel
theorem dL_acts_494 : decode cL_acts 494 = .ok (.goto 4, 3) := by decide +kernel
theorem dL_acts_497 : decode cL_acts 497 = .ok (.iconst 0, 1) := by decide +kernel
theorem dL_acts_498 : decode cL_acts 498 = .ok (.istore 6, 2) := by decide +kernel
theorem dL_acts_500 : decode cL_acts 500 = .ok (.iinc 7 1, 3) := by decide +kernel
theorem dL_acts_503 : decode cL_acts 503 = .ok (.goto (-36), 3) := by decide +kernel
theorem dL_acts_506 : decode cL_acts 506 = .ok (.aload_n 0, 1) := by decide +kernel
theorem dL_acts_507 : decode cL_acts 507 = .ok (.invokevirtual 67, 3) := by decide +kernel
theorem dL_acts_510 : decode cL_acts 510 = .ok (.iload 6, 2) := by decide +kernel
theorem dL_acts_512 : decode cL_acts 512 = .ok (.ifCond .eq 10, 3) := by decide +kernel
theorem dL_acts_515 : decode cL_acts 515 = .ok (.iconst 1, 1) := by decide +kernel
theorem dL_acts_516 : decode cL_acts 516 = .ok (.iload 5, 2) := by decide +kernel
theorem dL_acts_518 : decode cL_acts 518 = .ok (.isub, 1) := by decide +kernel
theorem dL_acts_519 : decode cL_acts 519 = .ok (.goto 5, 3) := by decide +kernel
theorem dL_acts_522 : decode cL_acts 522 = .ok (.bipush (-2), 2) := by decide +kernel
theorem dL_acts_524 : decode cL_acts 524 = .ok (.if_icmp .ne 7, 3) := by decide +kernel
theorem dL_acts_527 : decode cL_acts 527 = .ok (.iconst 1, 1) := by decide +kernel
theorem dL_acts_528 : decode cL_acts 528 = .ok (.goto 4, 3) := by decide +kernel
theorem dL_acts_531 : decode cL_acts 531 = .ok (.iconst 0, 1) := by decide +kernel
theorem dL_acts_532 : decode cL_acts 532 = .ok (.ireturn, 1) := by decide +kernel
theorem dL_acts_533 : decode cL_acts 533 = .ok (.iload_n 3, 1) := by decide +kernel
theorem dL_acts_534 : decode cL_acts 534 = .ok (.bipush 14, 2) := by decide +kernel
theorem dL_acts_536 : decode cL_acts 536 = .ok (.if_icmp .ne 106, 3) := by decide +kernel
theorem dL_acts_539 : decode cL_acts 539 = .ok (.iload_n 2, 1) := by decide +kernel
theorem dL_acts_540 : decode cL_acts 540 = .ok (.iconst 3, 1) := by decide +kernel
theorem dL_acts_541 : decode cL_acts 541 = .ok (.invokestatic 38, 3) := by decide +kernel
theorem dL_acts_544 : decode cL_acts 544 = .ok (.istore 5, 2) := by decide +kernel
theorem dL_acts_546 : decode cL_acts 546 = .ok (.aload_n 0, 1) := by decide +kernel
theorem dL_acts_547 : decode cL_acts 547 = .ok (.iconst 4, 1) := by decide +kernel
theorem dL_acts_548 : decode cL_acts 548 = .ok (.invokevirtual 13, 3) := by decide +kernel
theorem dL_acts_551 : decode cL_acts 551 = .ok (.istore 6, 2) := by decide +kernel
theorem dL_acts_553 : decode cL_acts 553 = .ok (.aload_n 0, 1) := by decide +kernel
theorem dL_acts_554 : decode cL_acts 554 = .ok (.iload 5, 2) := by decide +kernel
theorem dL_acts_556 : decode cL_acts 556 = .ok (.invokevirtual 70, 3) := by decide +kernel
theorem dL_acts_559 : decode cL_acts 559 = .ok (.istore 7, 2) := by decide +kernel
theorem dL_acts_561 : decode cL_acts 561 = .ok (.iload 5, 2) := by decide +kernel
theorem dL_acts_563 : decode cL_acts 563 = .ok (.iconst 2, 1) := by decide +kernel
theorem dL_acts_564 : decode cL_acts 564 = .ok (.if_icmp .ne 17, 3) := by decide +kernel
theorem dL_acts_567 : decode cL_acts 567 = .ok (.iload 7, 2) := by decide +kernel
theorem dL_acts_569 : decode cL_acts 569 = .ok (.iconst (-1), 1) := by decide +kernel
theorem dL_acts_570 : decode cL_acts 570 = .ok (.if_icmp .ne 7, 3) := by decide +kernel
theorem dL_acts_573 : decode cL_acts 573 = .ok (.iconst 1, 1) := by decide +kernel
theorem dL_acts_574 : decode cL_acts 574 = .ok (.goto 67, 3) := by decide +kernel
theorem dL_acts_577 : decode cL_acts 577 = .ok (.iconst 0, 1) := by decide +kernel
theorem dL_acts_578 : decode cL_acts 578 = .ok (.goto 63, 3) := by decide +kernel
theorem dL_acts_581 : decode cL_acts 581 = .ok (.iload 4, 2) := by decide +kernel
theorem dL_acts_583 : decode cL_acts 583 = .ok (.ifCond .ne 13, 3) := by decide +kernel
theorem dL_acts_586 : decode cL_acts 586 = .ok (.iload 5, 2) := by decide +kernel
theorem dL_acts_588 : decode cL_acts 588 = .ok (.aload_n 0, 1) := by decide +kernel
theorem dL_acts_589 : decode cL_acts 589 = .ok (.iconst 2, 1) := by decide +kernel
theorem dL_acts_590 : decode cL_acts 590 = .ok (.invokevirtual 13, 3) := by decide +kernel
theorem dL_acts_593 : decode cL_acts 593 = .ok (.if_icmp .ne 18, 3) := by decide +kernel
theorem dL_acts_596 : decode cL_acts 596 = .ok (.iload 7, 2) := by decide +kernel
theorem dL_acts_598 : decode cL_acts 598 = .ok (.bipush (-2), 2) := by decide +kernel
theorem dL_acts_600 : decode cL_acts 600 = .ok (.if_icmp .ne 7, 3) := by decide +kernel
theorem dL_acts_603 : decode cL_acts 603 = .ok (.iconst 1, 1) := by decide +kernel
theorem dL_acts_604 : decode cL_acts 604 = .ok (.goto 37, 3) := by decide +kernel
theorem dL_acts_607 : decode cL_acts 607 = .ok (.iconst 0, 1) := by decide +kernel
theorem dL_acts_608 : decode cL_acts 608 = .ok (.goto 33, 3) := by decide +kernel
theorem dL_acts_611 : decode cL_acts 611 = .ok (.iload 7, 2) := by decide +kernel
theorem dL_acts_613 : decode cL_acts 613 = .ok (.bipush (-3), 2) := by decide +kernel
theorem dL_acts_615 : decode cL_acts 615 = .ok (.if_icmp .eq 21, 3) := by decide +kernel
theorem dL_acts_618 : decode cL_acts 618 = .ok (.iload 7, 2) := by decide +kernel
theorem dL_acts_620 : decode cL_acts 620 = .ok (.ifCond .lt 20, 3) := by decide +kernel
theorem dL_acts_623 : decode cL_acts 623 = .ok (.aload_n 0, 1) := by decide +kernel
theorem dL_acts_624 : decode cL_acts 624 = .ok (.iconst 4, 1) := by decide +kernel
theorem dL_acts_625 : decode cL_acts 625 = .ok (.invokevirtual 13, 3) := by decide +kernel
theorem dL_acts_628 : decode cL_acts 628 = .ok (.iload 6, 2) := by decide +kernel
theorem dL_acts_630 : decode cL_acts 630 = .ok (.iload 7, 2) := by decide +kernel
theorem dL_acts_632 : decode cL_acts 632 = .ok (.iadd, 1) := by decide +kernel
theorem dL_acts_633 : decode cL_acts 633 = .ok (.if_icmp .ne 7, 3) := by decide +kernel
theorem dL_acts_636 : decode cL_acts 636 = .ok (.iconst 1, 1) := by decide +kernel
theorem dL_acts_637 : decode cL_acts 637 = .ok (.goto 4, 3) := by decide +kernel
theorem dL_acts_640 : decode cL_acts 640 = .ok (.iconst 0, 1) := by decide +kernel
theorem dL_acts_641 : decode cL_acts 641 = .ok (.ireturn, 1) := by decide +kernel
theorem dL_acts_642 : decode cL_acts 642 = .ok (.iload_n 3, 1) := by decide +kernel
theorem dL_acts_643 : decode cL_acts 643 = .ok (.bipush 15, 2) := by decide +kernel
theorem dL_acts_645 : decode cL_acts 645 = .ok (.if_icmp .ne 138, 3) := by decide +kernel
theorem dL_acts_648 : decode cL_acts 648 = .ok (.iload_n 2, 1) := by decide +kernel
theorem dL_acts_649 : decode cL_acts 649 = .ok (.iconst 3, 1) := by decide +kernel
theorem dL_acts_650 : decode cL_acts 650 = .ok (.invokestatic 38, 3) := by decide +kernel
theorem dL_acts_653 : decode cL_acts 653 = .ok (.istore 5, 2) := by decide +kernel
theorem dL_acts_655 : decode cL_acts 655 = .ok (.iload 5, 2) := by decide +kernel
theorem dL_acts_657 : decode cL_acts 657 = .ok (.iconst 2, 1) := by decide +kernel
theorem dL_acts_658 : decode cL_acts 658 = .ok (.if_icmp .ge 22, 3) := by decide +kernel
theorem dL_acts_661 : decode cL_acts 661 = .ok (.iload 4, 2) := by decide +kernel
theorem dL_acts_663 : decode cL_acts 663 = .ok (.ifCond .ne 17, 3) := by decide +kernel
theorem dL_acts_666 : decode cL_acts 666 = .ok (.iload 5, 2) := by decide +kernel
theorem dL_acts_668 : decode cL_acts 668 = .ok (.aload_n 0, 1) := by decide +kernel
theorem dL_acts_669 : decode cL_acts 669 = .ok (.iconst 2, 1) := by decide +kernel
theorem dL_acts_670 : decode cL_acts 670 = .ok (.invokevirtual 13, 3) := by decide +kernel
theorem dL_acts_673 : decode cL_acts 673 = .ok (.if_icmp .eq 7, 3) := by decide +kernel
theorem dL_acts_676 : decode cL_acts 676 = .ok (.iconst 1, 1) := by decide +kernel
theorem dL_acts_677 : decode cL_acts 677 = .ok (.goto 4, 3) := by decide +kernel
theorem dL_acts_680 : decode cL_acts 680 = .ok (.iconst 0, 1) := by decide +kernel
theorem dL_acts_681 : decode cL_acts 681 = .ok (.istore 6, 2) := by decide +kernel
theorem dL_acts_683 : decode cL_acts 683 = .ok (.iconst 0, 1) := by decide +kernel
theorem dL_acts_684 : decode cL_acts 684 = .ok (.istore 7, 2) := by decide +kernel
theorem dL_acts_686 : decode cL_acts 686 = .ok (.iload 7, 2) := by decide +kernel
theorem dL_acts_688 : decode cL_acts 688 = .ok (.bipush 12, 2) := by decide +kernel
theorem dL_acts_690 : decode cL_acts 690 = .ok (.if_icmp .ge 33, 3) := by decide +kernel
theorem dL_acts_693 : decode cL_acts 693 = .ok (.iload 6, 2) := by decide +kernel
theorem dL_acts_695 : decode cL_acts 695 = .ok (.ifCond .eq 19, 3) := by decide +kernel
theorem dL_acts_698 : decode cL_acts 698 = .ok (.aload_n 0, 1) := by decide +kernel
theorem dL_acts_699 : decode cL_acts 699 = .ok (.iload 7, 2) := by decide +kernel
theorem dL_acts_701 : decode cL_acts 701 = .ok (.iconst 0, 1) := by decide +kernel
theorem dL_acts_702 : decode cL_acts 702 = .ok (.invokevirtual 30, 3) := by decide +kernel
theorem dL_acts_705 : decode cL_acts 705 = .ok (.iload 5, 2) := by decide +kernel
theorem dL_acts_707 : decode cL_acts 707 = .ok (.if_icmp .eq 7, 3) := by decide +kernel
theorem dL_acts_710 : decode cL_acts 710 = .ok (.iconst 1, 1) := by decide +kernel
theorem dL_acts_711 : decode cL_acts 711 = .ok (.goto 4, 3) := by decide +kernel
theorem dL_acts_714 : decode cL_acts 714 = .ok (.iconst 0, 1) := by decide +kernel
theorem dL_acts_715 : decode cL_acts 715 = .ok (.istore 6, 2) := by decide +kernel
theorem dL_acts_717 : decode cL_acts 717 = .ok (.iinc 7 1, 3) := by decide +kernel
theorem dL_acts_720 : decode cL_acts 720 = .ok (.goto (-34), 3) := by decide +kernel
theorem dL_acts_723 : decode cL_acts 723 = .ok (.iload 5, 2) := by decide +kernel
theorem dL_acts_725 : decode cL_acts 725 = .ok (.iconst 2, 1) := by decide +kernel
theorem dL_acts_726 : decode cL_acts 726 = .ok (.if_icmp .ge 15, 3) := by decide +kernel
theorem dL_acts_729 : decode cL_acts 729 = .ok (.aload_n 0, 1) := by decide +kernel
theorem dL_acts_730 : decode cL_acts 730 = .ok (.bipush 12, 2) := by decide +kernel
theorem dL_acts_732 : decode cL_acts 732 = .ok (.iload 5, 2) := by decide +kernel
theorem dL_acts_734 : decode cL_acts 734 = .ok (.iadd, 1) := by decide +kernel
theorem dL_acts_735 : decode cL_acts 735 = .ok (.invokevirtual 13, 3) := by decide +kernel
theorem dL_acts_738 : decode cL_acts 738 = .ok (.goto 4, 3) := by decide +kernel
theorem dL_acts_741 : decode cL_acts 741 = .ok (.iconst 0, 1) := by decide +kernel
theorem dL_acts_742 : decode cL_acts 742 = .ok (.istore 7, 2) := by decide +kernel
theorem dL_acts_744 : decode cL_acts 744 = .ok (.aload_n 0, 1) := by decide +kernel
theorem dL_acts_745 : decode cL_acts 745 = .ok (.iload 5, 2) := by decide +kernel
theorem dL_acts_747 : decode cL_acts 747 = .ok (.invokevirtual 73, 3) := by decide +kernel
theorem dL_acts_750 : decode cL_acts 750 = .ok (.iload 5, 2) := by decide +kernel
theorem dL_acts_752 : decode cL_acts 752 = .ok (.iconst 2, 1) := by decide +kernel
theorem dL_acts_753 : decode cL_acts 753 = .ok (.if_icmp .ne 7, 3) := by decide +kernel
theorem dL_acts_756 : decode cL_acts 756 = .ok (.iconst (-1), 1) := by decide +kernel
theorem dL_acts_757 : decode cL_acts 757 = .ok (.goto 17, 3) := by decide +kernel
theorem dL_acts_760 : decode cL_acts 760 = .ok (.iload 6, 2) := by decide +kernel
theorem dL_acts_762 : decode cL_acts 762 = .ok (.ifCond .eq 10, 3) := by decide +kernel
theorem dL_acts_765 : decode cL_acts 765 = .ok (.iload 7, 2) := by decide +kernel
theorem dL_acts_767 : decode cL_acts 767 = .ok (.iconst 1, 1) := by decide +kernel
theorem dL_acts_768 : decode cL_acts 768 = .ok (.iadd, 1) := by decide +kernel
theorem dL_acts_769 : decode cL_acts 769 = .ok (.goto 5, 3) := by decide +kernel
theorem dL_acts_772 : decode cL_acts 772 = .ok (.bipush (-2), 2) := by decide +kernel
theorem dL_acts_774 : decode cL_acts 774 = .ok (.if_icmp .ne 7, 3) := by decide +kernel
theorem dL_acts_777 : decode cL_acts 777 = .ok (.iconst 1, 1) := by decide +kernel
theorem dL_acts_778 : decode cL_acts 778 = .ok (.goto 4, 3) := by decide +kernel
theorem dL_acts_781 : decode cL_acts 781 = .ok (.iconst 0, 1) := by decide +kernel
theorem dL_acts_782 : decode cL_acts 782 = .ok (.ireturn, 1) := by decide +kernel
theorem dL_acts_783 : decode cL_acts 783 = .ok (.iload_n 3, 1) := by decide +kernel
theorem dL_acts_784 : decode cL_acts 784 = .ok (.bipush 16, 2) := by decide +kernel
theorem dL_acts_786 : decode cL_acts 786 = .ok (.if_icmp .ne 217, 3) := by decide +kernel
theorem dL_acts_789 : decode cL_acts 789 = .ok (.iload_n 2, 1) := by decide +kernel
theorem dL_acts_790 : decode cL_acts 790 = .ok (.bipush 9, 2) := by decide +kernel
theorem dL_acts_792 : decode cL_acts 792 = .ok (.invokestatic 38, 3) := by decide +kernel
theorem dL_acts_795 : decode cL_acts 795 = .ok (.istore 5, 2) := by decide +kernel
theorem dL_acts_797 : decode cL_acts 797 = .ok (.iload_n 2, 1) := by decide +kernel
theorem dL_acts_798 : decode cL_acts 798 = .ok (.iconst 4, 1) := by decide +kernel
theorem dL_acts_799 : decode cL_acts 799 = .ok (.ishr, 1) := by decide +kernel
theorem dL_acts_800 : decode cL_acts 800 = .ok (.bipush 7, 2) := by decide +kernel
theorem dL_acts_802 : decode cL_acts 802 = .ok (.invokestatic 38, 3) := by decide +kernel
theorem dL_acts_805 : decode cL_acts 805 = .ok (.istore 6, 2) := by decide +kernel
theorem dL_acts_807 : decode cL_acts 807 = .ok (.iload_n 2, 1) := by decide +kernel
theorem dL_acts_808 : decode cL_acts 808 = .ok (.bipush 7, 2) := by decide +kernel
theorem dL_acts_810 : decode cL_acts 810 = .ok (.ishr, 1) := by decide +kernel
theorem dL_acts_811 : decode cL_acts 811 = .ok (.iconst 5, 1) := by decide +kernel
theorem dL_acts_812 : decode cL_acts 812 = .ok (.invokestatic 38, 3) := by decide +kernel
theorem dL_acts_815 : decode cL_acts 815 = .ok (.istore 7, 2) := by decide +kernel
theorem dL_acts_817 : decode cL_acts 817 = .ok (.iload_n 2, 1) := by decide +kernel
theorem dL_acts_818 : decode cL_acts 818 = .ok (.bipush 10, 2) := by decide +kernel
theorem dL_acts_820 : decode cL_acts 820 = .ok (.ishr, 1) := by decide +kernel
theorem dL_acts_821 : decode cL_acts 821 = .ok (.bipush 8, 2) := by decide +kernel
theorem dL_acts_823 : decode cL_acts 823 = .ok (.invokestatic 38, 3) := by decide +kernel
theorem dL_acts_826 : decode cL_acts 826 = .ok (.istore 8, 2) := by decide +kernel
theorem dL_acts_828 : decode cL_acts 828 = .ok (.iload_n 2, 1) := by decide +kernel
theorem dL_acts_829 : decode cL_acts 829 = .ok (.bipush 13, 2) := by decide +kernel
theorem dL_acts_831 : decode cL_acts 831 = .ok (.ishr, 1) := by decide +kernel
theorem dL_acts_832 : decode cL_acts 832 = .ok (.iconst 2, 1) := by decide +kernel
theorem dL_acts_833 : decode cL_acts 833 = .ok (.invokestatic 38, 3) := by decide +kernel
theorem dL_acts_836 : decode cL_acts 836 = .ok (.ifCond .ne 7, 3) := by decide +kernel
theorem dL_acts_839 : decode cL_acts 839 = .ok (.iconst 1, 1) := by decide +kernel
theorem dL_acts_840 : decode cL_acts 840 = .ok (.goto 4, 3) := by decide +kernel
theorem dL_acts_843 : decode cL_acts 843 = .ok (.iconst 0, 1) := by decide +kernel
theorem dL_acts_844 : decode cL_acts 844 = .ok (.istore 9, 2) := by decide +kernel
theorem dL_acts_846 : decode cL_acts 846 = .ok (.iload 9, 2) := by decide +kernel
theorem dL_acts_848 : decode cL_acts 848 = .ok (.ifCond .eq 26, 3) := by decide +kernel
theorem dL_acts_851 : decode cL_acts 851 = .ok (.iload 5, 2) := by decide +kernel
theorem dL_acts_853 : decode cL_acts 853 = .ok (.bipush 8, 2) := by decide +kernel
theorem dL_acts_855 : decode cL_acts 855 = .ok (.if_icmp .ne 7, 3) := by decide +kernel
theorem dL_acts_858 : decode cL_acts 858 = .ok (.iconst 0, 1) := by decide +kernel
theorem dL_acts_859 : decode cL_acts 859 = .ok (.goto 34, 3) := by decide +kernel
theorem dL_acts_862 : decode cL_acts 862 = .ok (.aload_n 0, 1) := by decide +kernel
theorem dL_acts_863 : decode cL_acts 863 = .ok (.bipush 30, 2) := by decide +kernel
theorem dL_acts_865 : decode cL_acts 865 = .ok (.iload 5, 2) := by decide +kernel
theorem dL_acts_867 : decode cL_acts 867 = .ok (.iadd, 1) := by decide +kernel
theorem dL_acts_868 : decode cL_acts 868 = .ok (.invokevirtual 13, 3) := by decide +kernel
theorem dL_acts_871 : decode cL_acts 871 = .ok (.goto 22, 3) := by decide +kernel
theorem dL_acts_874 : decode cL_acts 874 = .ok (.iload 7, 2) := by decide +kernel
theorem dL_acts_876 : decode cL_acts 876 = .ok (.iconst 4, 1) := by decide +kernel
theorem dL_acts_877 : decode cL_acts 877 = .ok (.if_icmp .ne 7, 3) := by decide +kernel
theorem dL_acts_880 : decode cL_acts 880 = .ok (.iconst 0, 1) := by decide +kernel
theorem dL_acts_881 : decode cL_acts 881 = .ok (.goto 12, 3) := by decide +kernel
theorem dL_acts_884 : decode cL_acts 884 = .ok (.aload_n 0, 1) := by decide +kernel
theorem dL_acts_885 : decode cL_acts 885 = .ok (.bipush 20, 2) := by decide +kernel
theorem dL_acts_887 : decode cL_acts 887 = .ok (.iload 7, 2) := by decide +kernel
theorem dL_acts_889 : decode cL_acts 889 = .ok (.iadd, 1) := by decide +kernel
theorem dL_acts_890 : decode cL_acts 890 = .ok (.invokevirtual 13, 3) := by decide +kernel
theorem dL_acts_893 : decode cL_acts 893 = .ok (.istore 10, 2) := by decide +kernel
theorem dL_acts_895 : decode cL_acts 895 = .ok (.iload 9, 2) := by decide +kernel
theorem dL_acts_897 : decode cL_acts 897 = .ok (.ifCond .eq 14, 3) := by decide +kernel
theorem dL_acts_900 : decode cL_acts 900 = .ok (.aload_n 0, 1) := by decide +kernel
theorem dL_acts_901 : decode cL_acts 901 = .ok (.iload 5, 2) := by decide +kernel
theorem dL_acts_903 : decode cL_acts 903 = .ok (.iload 6, 2) := by decide +kernel
theorem dL_acts_905 : decode cL_acts 905 = .ok (.invokevirtual 76, 3) := by decide +kernel
theorem dL_acts_908 : decode cL_acts 908 = .ok (.goto 11, 3) := by decide +kernel
theorem dL_acts_911 : decode cL_acts 911 = .ok (.aload_n 0, 1) := by decide +kernel
theorem dL_acts_912 : decode cL_acts 912 = .ok (.iload 7, 2) := by decide +kernel
theorem dL_acts_914 : decode cL_acts 914 = .ok (.iload 8, 2) := by decide +kernel
theorem dL_acts_916 : decode cL_acts 916 = .ok (.invokevirtual 79, 3) := by decide +kernel
theorem dL_acts_919 : decode cL_acts 919 = .ok (.istore 11, 2) := by decide +kernel
theorem dL_acts_921 : decode cL_acts 921 = .ok (.iload 9, 2) := by decide +kernel
theorem dL_acts_923 : decode cL_acts 923 = .ok (.ifCond .eq 25, 3) := by decide +kernel
theorem dL_acts_926 : decode cL_acts 926 = .ok (.iload 5, 2) := by decide +kernel
theorem dL_acts_928 : decode cL_acts 928 = .ok (.bipush 8, 2) := by decide +kernel
theorem dL_acts_930 : decode cL_acts 930 = .ok (.if_icmp .eq 10, 3) := by decide +kernel
theorem dL_acts_933 : decode cL_acts 933 = .ok (.iload 6, 2) := by decide +kernel
theorem dL_acts_935 : decode cL_acts 935 = .ok (.bipush 6, 2) := by decide +kernel
theorem dL_acts_937 : decode cL_acts 937 = .ok (.if_icmp .ne 7, 3) := by decide +kernel
theorem dL_acts_940 : decode cL_acts 940 = .ok (.iconst 1, 1) := by decide +kernel
theorem dL_acts_941 : decode cL_acts 941 = .ok (.goto 38, 3) := by decide +kernel
theorem dL_acts_944 : decode cL_acts 944 = .ok (.iconst 0, 1) := by decide +kernel
theorem dL_acts_945 : decode cL_acts 945 = .ok (.goto 34, 3) := by decide +kernel
theorem dL_acts_948 : decode cL_acts 948 = .ok (.iload 7, 2) := by decide +kernel
theorem dL_acts_950 : decode cL_acts 950 = .ok (.iconst 4, 1) := by decide +kernel
theorem dL_acts_951 : decode cL_acts 951 = .ok (.if_icmp .eq 23, 3) := by decide +kernel
theorem dL_acts_954 : decode cL_acts 954 = .ok (.iload 7, 2) := by decide +kernel
theorem dL_acts_956 : decode cL_acts 956 = .ok (.iconst 2, 1) := by decide +kernel
theorem dL_acts_957 : decode cL_acts 957 = .ok (.if_icmp .ne 12, 3) := by decide +kernel
theorem dL_acts_960 : decode cL_acts 960 = .ok (.iload 8, 2) := by decide +kernel
theorem dL_acts_962 : decode cL_acts 962 = .ok (.iconst 1, 1) := by decide +kernel
theorem dL_acts_963 : decode cL_acts 963 = .ok (.if_icmp .le 15, 3) := by decide +kernel
theorem dL_acts_966 : decode cL_acts 966 = .ok (.goto 8, 3) := by decide +kernel
theorem dL_acts_969 : decode cL_acts 969 = .ok (.iload 8, 2) := by decide +kernel
theorem dL_acts_971 : decode cL_acts 971 = .ok (.ifCond .ne 7, 3) := by decide +kernel
theorem dL_acts_974 : decode cL_acts 974 = .ok (.iconst 1, 1) := by decide +kernel
theorem dL_acts_975 : decode cL_acts 975 = .ok (.goto 4, 3) := by decide +kernel
theorem dL_acts_978 : decode cL_acts 978 = .ok (.iconst 0, 1) := by decide +kernel
theorem dL_acts_979 : decode cL_acts 979 = .ok (.istore 12, 2) := by decide +kernel
theorem dL_acts_981 : decode cL_acts 981 = .ok (.iload 11, 2) := by decide +kernel
theorem dL_acts_983 : decode cL_acts 983 = .ok (.iload 12, 2) := by decide +kernel
theorem dL_acts_985 : decode cL_acts 985 = .ok (.ifCond .eq 7, 3) := by decide +kernel
theorem dL_acts_988 : decode cL_acts 988 = .ok (.iconst (-1), 1) := by decide +kernel
theorem dL_acts_989 : decode cL_acts 989 = .ok (.goto 5, 3) := by decide +kernel
theorem dL_acts_992 : decode cL_acts 992 = .ok (.iload 10, 2) := by decide +kernel
theorem dL_acts_994 : decode cL_acts 994 = .ok (.if_icmp .ne 7, 3) := by decide +kernel
theorem dL_acts_997 : decode cL_acts 997 = .ok (.iconst 1, 1) := by decide +kernel
theorem dL_acts_998 : decode cL_acts 998 = .ok (.goto 4, 3) := by decide +kernel
theorem dL_acts_1001 : decode cL_acts 1001 = .ok (.iconst 0, 1) := by decide +kernel
theorem dL_acts_1002 : decode cL_acts 1002 = .ok (.ireturn, 1) := by decide +kernel
theorem dL_acts_1003 : decode cL_acts 1003 = .ok (.aload_n 0, 1) := by decide +kernel
theorem dL_acts_1004 : decode cL_acts 1004 = .ok (.iload_n 2, 1) := by decide +kernel
theorem dL_acts_1005 : decode cL_acts 1005 = .ok (.invokestatic 82, 3) := by decide +kernel
theorem dL_acts_1008 : decode cL_acts 1008 = .ok (.ifCond .eq 14, 3) := by decide +kernel
theorem dL_acts_1011 : decode cL_acts 1011 = .ok (.aload_n 0, 1) := by decide +kernel
theorem dL_acts_1012 : decode cL_acts 1012 = .ok (.invokestatic 85, 3) := by decide +kernel
theorem dL_acts_1015 : decode cL_acts 1015 = .ok (.ifCond .eq 7, 3) := by decide +kernel
theorem dL_acts_1018 : decode cL_acts 1018 = .ok (.iconst 1, 1) := by decide +kernel
theorem dL_acts_1019 : decode cL_acts 1019 = .ok (.goto 4, 3) := by decide +kernel
theorem dL_acts_1022 : decode cL_acts 1022 = .ok (.iconst 0, 1) := by decide +kernel
theorem dL_acts_1023 : decode cL_acts 1023 = .ok (.ireturn, 1) := by decide +kernel
theorem dL_law_0 : decode cL_law 0 = .ok (.new 14, 3) := by decide +kernel
theorem dL_law_3 : decode cL_law 3 = .ok (.dup, 1) := by decide +kernel
theorem dL_law_4 : decode cL_law 4 = .ok (.invokespecial 89, 3) := by decide +kernel
theorem dL_law_7 : decode cL_law 7 = .ok (.astore_n 1, 1) := by decide +kernel
theorem dL_law_8 : decode cL_law 8 = .ok (.aload_n 1, 1) := by decide +kernel
theorem dL_law_9 : decode cL_law 9 = .ok (.invokestatic 90, 3) := by decide +kernel
theorem dL_law_12 : decode cL_law 12 = .ok (.ifCond .eq 16, 3) := by decide +kernel
theorem dL_law_15 : decode cL_law 15 = .ok (.aload_n 1, 1) := by decide +kernel
theorem dL_law_16 : decode cL_law 16 = .ok (.invokevirtual 93, 3) := by decide +kernel
theorem dL_law_19 : decode cL_law 19 = .ok (.bipush (-2), 2) := by decide +kernel
theorem dL_law_21 : decode cL_law 21 = .ok (.if_icmp .ne 7, 3) := by decide +kernel
theorem dL_law_24 : decode cL_law 24 = .ok (.iconst 1, 1) := by decide +kernel
theorem dL_law_25 : decode cL_law 25 = .ok (.goto 4, 3) := by decide +kernel
theorem dL_law_28 : decode cL_law 28 = .ok (.iconst 0, 1) := by decide +kernel
theorem dL_law_29 : decode cL_law 29 = .ok (.istore_n 2, 1) := by decide +kernel
theorem dL_law_30 : decode cL_law 30 = .ok (.iconst 0, 1) := by decide +kernel
theorem dL_law_31 : decode cL_law 31 = .ok (.istore_n 3, 1) := by decide +kernel
theorem dL_law_32 : decode cL_law 32 = .ok (.iload_n 3, 1) := by decide +kernel
theorem dL_law_33 : decode cL_law 33 = .ok (.bipush 34, 2) := by decide +kernel
theorem dL_law_35 : decode cL_law 35 = .ok (.if_icmp .ge 237, 3) := by decide +kernel
theorem dL_law_38 : decode cL_law 38 = .ok (.iload_n 2, 1) := by decide +kernel
theorem dL_law_39 : decode cL_law 39 = .ok (.ifCond .eq 233, 3) := by decide +kernel
theorem dL_law_42 : decode cL_law 42 = .ok (.aload_n 0, 1) := by decide +kernel
theorem dL_law_43 : decode cL_law 43 = .ok (.iconst 2, 1) := by decide +kernel
theorem dL_law_44 : decode cL_law 44 = .ok (.iload_n 3, 1) := by decide +kernel
theorem dL_law_45 : decode cL_law 45 = .ok (.imul, 1) := by decide +kernel
theorem dL_law_46 : decode cL_law 46 = .ok (.invokestatic 96, 3) := by decide +kernel
theorem dL_law_49 : decode cL_law 49 = .ok (.istore 4, 2) := by decide +kernel
theorem dL_law_51 : decode cL_law 51 = .ok (.aload_n 0, 1) := by decide +kernel
theorem dL_law_52 : decode cL_law 52 = .ok (.iconst 2, 1) := by decide +kernel
theorem dL_law_53 : decode cL_law 53 = .ok (.iload_n 3, 1) := by decide +kernel
theorem dL_law_54 : decode cL_law 54 = .ok (.imul, 1) := by decide +kernel
theorem dL_law_55 : decode cL_law 55 = .ok (.iconst 1, 1) := by decide +kernel
theorem dL_law_56 : decode cL_law 56 = .ok (.iadd, 1) := by decide +kernel
theorem dL_law_57 : decode cL_law 57 = .ok (.invokestatic 96, 3) := by decide +kernel
theorem dL_law_60 : decode cL_law 60 = .ok (.istore 5, 2) := by decide +kernel
theorem dL_law_62 : decode cL_law 62 = .ok (.aload_n 1, 1) := by decide +kernel
theorem dL_law_63 : decode cL_law 63 = .ok (.invokestatic 100, 3) := by decide +kernel
theorem dL_law_66 : decode cL_law 66 = .ok (.lstore 6, 2) := by decide +kernel
theorem dL_law_68 : decode cL_law 68 = .ok (.aload_n 1, 1) := by decide +kernel
theorem dL_law_69 : decode cL_law 69 = .ok (.bipush 16, 2) := by decide +kernel
theorem dL_law_71 : decode cL_law 71 = .ok (.invokevirtual 13, 3) := by decide +kernel
theorem dL_law_74 : decode cL_law 74 = .ok (.istore 8, 2) := by decide +kernel
theorem dL_law_76 : decode cL_law 76 = .ok (.aload_n 1, 1) := by decide +kernel
theorem dL_law_77 : decode cL_law 77 = .ok (.iload_n 3, 1) := by decide +kernel
theorem dL_law_78 : decode cL_law 78 = .ok (.iconst 2, 1) := by decide +kernel
theorem dL_law_79 : decode cL_law 79 = .ok (.if_icmp .ge 17, 3) := by decide +kernel
theorem dL_law_82 : decode cL_law 82 = .ok (.iload 4, 2) := by decide +kernel
theorem dL_law_84 : decode cL_law 84 = .ok (.bipush 18, 2) := by decide +kernel
theorem dL_law_86 : decode cL_law 86 = .ok (.idiv, 1) := by decide +kernel
theorem dL_law_87 : decode cL_law 87 = .ok (.bipush 18, 2) := by decide +kernel
theorem dL_law_89 : decode cL_law 89 = .ok (.imul, 1) := by decide +kernel
theorem dL_law_90 : decode cL_law 90 = .ok (.ldc 104, 2) := by decide +kernel
theorem dL_law_92 : decode cL_law 92 = .ok (.iand, 1) := by decide +kernel
theorem dL_law_93 : decode cL_law 93 = .ok (.goto 5, 3) := by decide +kernel
theorem dL_law_96 : decode cL_law 96 = .ok (.iload 4, 2) := by decide +kernel
theorem dL_law_98 : decode cL_law 98 = .ok (.iload 5, 2) := by decide +kernel
theorem dL_law_100 : decode cL_law 100 = .ok (.invokestatic 105, 3) := by decide +kernel
theorem dL_law_103 : decode cL_law 103 = .ok (.ifCond .eq 14, 3) := by decide +kernel
theorem dL_law_106 : decode cL_law 106 = .ok (.aload_n 1, 1) := by decide +kernel
theorem dL_law_107 : decode cL_law 107 = .ok (.invokestatic 90, 3) := by decide +kernel
theorem dL_law_110 : decode cL_law 110 = .ok (.ifCond .eq 7, 3) := by decide +kernel
theorem dL_law_113 : decode cL_law 113 = .ok (.iconst 1, 1) := by decide +kernel
theorem dL_law_114 : decode cL_law 114 = .ok (.goto 4, 3) := by decide +kernel
theorem dL_law_117 : decode cL_law 117 = .ok (.iconst 0, 1) := by decide +kernel
theorem dL_law_118 : decode cL_law 118 = .ok (.istore_n 2, 1) := by decide +kernel
theorem dL_law_119 : decode cL_law 119 = .ok (.aload_n 1, 1) := by decide +kernel
theorem dL_law_120 : decode cL_law 120 = .ok (.bipush 16, 2) := by decide +kernel
theorem dL_law_122 : decode cL_law 122 = .ok (.invokevirtual 13, 3) := by decide +kernel
theorem dL_law_125 : decode cL_law 125 = .ok (.istore 9, 2) := by decide +kernel
theorem dL_law_127 : decode cL_law 127 = .ok (.iload_n 2, 1) := by decide +kernel
theorem dL_law_128 : decode cL_law 128 = .ok (.ifCond .eq 39, 3) := by decide +kernel
theorem dL_law_131 : decode cL_law 131 = .ok (.iload 9, 2) := by decide +kernel
theorem dL_law_133 : decode cL_law 133 = .ok (.iload 8, 2) := by decide +kernel
theorem dL_law_135 : decode cL_law 135 = .ok (.if_icmp .ne 19, 3) := by decide +kernel
theorem dL_law_138 : decode cL_law 138 = .ok (.iload 8, 2) := by decide +kernel
theorem dL_law_140 : decode cL_law 140 = .ok (.iconst 4, 1) := by decide +kernel
theorem dL_law_141 : decode cL_law 141 = .ok (.if_icmp .eq 22, 3) := by decide +kernel
theorem dL_law_144 : decode cL_law 144 = .ok (.aload_n 1, 1) := by decide +kernel
theorem dL_law_145 : decode cL_law 145 = .ok (.invokestatic 100, 3) := by decide +kernel
theorem dL_law_148 : decode cL_law 148 = .ok (.lload 6, 2) := by decide +kernel
theorem dL_law_150 : decode cL_law 150 = .ok (.lcmp, 1) := by decide +kernel
theorem dL_law_151 : decode cL_law 151 = .ok (.ifCond .eq 12, 3) := by decide +kernel
theorem dL_law_154 : decode cL_law 154 = .ok (.iload 9, 2) := by decide +kernel
theorem dL_law_156 : decode cL_law 156 = .ok (.iload 8, 2) := by decide +kernel
theorem dL_law_158 : decode cL_law 158 = .ok (.iconst 1, 1) := by decide +kernel
theorem dL_law_159 : decode cL_law 159 = .ok (.iadd, 1) := by decide +kernel
theorem dL_law_160 : decode cL_law 160 = .ok (.if_icmp .ne 7, 3) := by decide +kernel
theorem dL_law_163 : decode cL_law 163 = .ok (.iconst 1, 1) := by decide +kernel
theorem dL_law_164 : decode cL_law 164 = .ok (.goto 4, 3) := by decide +kernel
theorem dL_law_167 : decode cL_law 167 = .ok (.iconst 0, 1) := by decide +kernel
theorem dL_law_168 : decode cL_law 168 = .ok (.istore_n 2, 1) := by decide +kernel
theorem dL_law_169 : decode cL_law 169 = .ok (.iload_n 2, 1) := by decide +kernel
theorem dL_law_170 : decode cL_law 170 = .ok (.ifCond .eq 49, 3) := by decide +kernel
theorem dL_law_173 : decode cL_law 173 = .ok (.iload 9, 2) := by decide +kernel
theorem dL_law_175 : decode cL_law 175 = .ok (.iload 8, 2) := by decide +kernel
theorem dL_law_177 : decode cL_law 177 = .ok (.iconst 1, 1) := by decide +kernel
theorem dL_law_178 : decode cL_law 178 = .ok (.iadd, 1) := by decide +kernel
theorem dL_law_179 : decode cL_law 179 = .ok (.if_icmp .ne 40, 3) := by decide +kernel
theorem dL_law_182 : decode cL_law 182 = .ok (.iload 5, 2) := by decide +kernel
theorem dL_law_184 : decode cL_law 184 = .ok (.bipush 8, 2) := by decide +kernel
theorem dL_law_186 : decode cL_law 186 = .ok (.ishr, 1) := by decide +kernel
theorem dL_law_187 : decode cL_law 187 = .ok (.iconst 3, 1) := by decide +kernel
theorem dL_law_188 : decode cL_law 188 = .ok (.invokestatic 38, 3) := by decide +kernel
theorem dL_law_191 : decode cL_law 191 = .ok (.ifCond .ne 28, 3) := by decide +kernel
theorem dL_law_194 : decode cL_law 194 = .ok (.aload_n 1, 1) := by decide +kernel
theorem dL_law_195 : decode cL_law 195 = .ok (.invokevirtual 93, 3) := by decide +kernel
theorem dL_law_198 : decode cL_law 198 = .ok (.iload 8, 2) := by decide +kernel
theorem dL_law_200 : decode cL_law 200 = .ok (.if_icmp .ne 17, 3) := by decide +kernel
theorem dL_law_203 : decode cL_law 203 = .ok (.aload_n 1, 1) := by decide +kernel
theorem dL_law_204 : decode cL_law 204 = .ok (.invokestatic 100, 3) := by decide +kernel
theorem dL_law_207 : decode cL_law 207 = .ok (.lload 6, 2) := by decide +kernel
theorem dL_law_209 : decode cL_law 209 = .ok (.lcmp, 1) := by decide +kernel
theorem dL_law_210 : decode cL_law 210 = .ok (.ifCond .ne 7, 3) := by decide +kernel
theorem dL_law_213 : decode cL_law 213 = .ok (.iconst 1, 1) := by decide +kernel
theorem dL_law_214 : decode cL_law 214 = .ok (.goto 4, 3) := by decide +kernel
theorem dL_law_217 : decode cL_law 217 = .ok (.iconst 0, 1) := by decide +kernel
theorem dL_law_218 : decode cL_law 218 = .ok (.istore_n 2, 1) := by decide +kernel
theorem dL_law_219 : decode cL_law 219 = .ok (.iload_n 2, 1) := by decide +kernel
theorem dL_law_220 : decode cL_law 220 = .ok (.ifCond .eq 46, 3) := by decide +kernel
theorem dL_law_223 : decode cL_law 223 = .ok (.iload_n 3, 1) := by decide +kernel
theorem dL_law_224 : decode cL_law 224 = .ok (.bipush 6, 2) := by decide +kernel
theorem dL_law_226 : decode cL_law 226 = .ok (.irem, 1) := by decide +kernel
theorem dL_law_227 : decode cL_law 227 = .ok (.iconst 5, 1) := by decide +kernel
theorem dL_law_228 : decode cL_law 228 = .ok (.if_icmp .ne 38, 3) := by decide +kernel
theorem dL_law_231 : decode cL_law 231 = .ok (.aload_n 1, 1) := by decide +kernel
theorem dL_law_232 : decode cL_law 232 = .ok (.bipush 16, 2) := by decide +kernel
theorem dL_law_234 : decode cL_law 234 = .ok (.invokevirtual 13, 3) := by decide +kernel
theorem dL_law_237 : decode cL_law 237 = .ok (.istore 10, 2) := by decide +kernel
theorem dL_law_239 : decode cL_law 239 = .ok (.aload_n 1, 1) := by decide +kernel
theorem dL_law_240 : decode cL_law 240 = .ok (.invokevirtual 93, 3) := by decide +kernel
theorem dL_law_243 : decode cL_law 243 = .ok (.iload 10, 2) := by decide +kernel
theorem dL_law_245 : decode cL_law 245 = .ok (.ifCond .ne 8, 3) := by decide +kernel
theorem dL_law_248 : decode cL_law 248 = .ok (.bipush (-2), 2) := by decide +kernel
theorem dL_law_250 : decode cL_law 250 = .ok (.goto 7, 3) := by decide +kernel
theorem dL_law_253 : decode cL_law 253 = .ok (.iload 10, 2) := by decide +kernel
theorem dL_law_255 : decode cL_law 255 = .ok (.iconst 1, 1) := by decide +kernel
theorem dL_law_256 : decode cL_law 256 = .ok (.isub, 1) := by decide +kernel
theorem dL_law_257 : decode cL_law 257 = .ok (.if_icmp .ne 7, 3) := by decide +kernel
theorem dL_law_260 : decode cL_law 260 = .ok (.iconst 1, 1) := by decide +kernel
theorem dL_law_261 : decode cL_law 261 = .ok (.goto 4, 3) := by decide +kernel
theorem dL_law_264 : decode cL_law 264 = .ok (.iconst 0, 1) := by decide +kernel
theorem dL_law_265 : decode cL_law 265 = .ok (.istore_n 2, 1) := by decide +kernel
theorem dL_law_266 : decode cL_law 266 = .ok (.iinc 3 1, 3) := by decide +kernel
theorem dL_law_269 : decode cL_law 269 = .ok (.goto (-237), 3) := by decide +kernel
theorem dL_law_272 : decode cL_law 272 = .ok (.iload_n 2, 1) := by decide +kernel
theorem dL_law_273 : decode cL_law 273 = .ok (.ireturn, 1) := by decide +kernel
