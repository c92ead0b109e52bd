theorem dL_law_0 : decode code 0 = .ok (.new 10, 3) := by decide +kernel
theorem dL_law_3 : decode code 3 = .ok (.dup, 1) := by decide +kernel
theorem dL_law_4 : decode code 4 = .ok (.invokespecial 82, 3) := by decide +kernel
theorem dL_law_7 : decode code 7 = .ok (.astore_n 1, 1) := by decide +kernel
theorem dL_law_8 : decode code 8 = .ok (.iconst 0, 1) := by decide +kernel
theorem dL_law_9 : decode code 9 = .ok (.istore_n 2, 1) := by decide +kernel
theorem dL_law_10 : decode code 10 = .ok (.iconst 0, 1) := by decide +kernel
theorem dL_law_11 : decode code 11 = .ok (.istore_n 3, 1) := by decide +kernel
theorem dL_law_12 : decode code 12 = .ok (.iconst 0, 1) := by decide +kernel
theorem dL_law_13 : decode code 13 = .ok (.istore 4, 2) := by decide +kernel
theorem dL_law_15 : decode code 15 = .ok (.iconst 0, 1) := by decide +kernel
theorem dL_law_16 : decode code 16 = .ok (.istore 5, 2) := by decide +kernel
theorem dL_law_18 : decode code 18 = .ok (.aload_n 1, 1) := by decide +kernel
theorem dL_law_19 : decode code 19 = .ok (.iconst 0, 1) := by decide +kernel
theorem dL_law_20 : decode code 20 = .ok (.invokestatic 83, 3) := by decide +kernel
theorem dL_law_23 : decode code 23 = .ok (.ifCond .eq 30, 3) := by decide +kernel
theorem dL_law_26 : decode code 26 = .ok (.aload_n 1, 1) := by decide +kernel
theorem dL_law_27 : decode code 27 = .ok (.invokestatic 87, 3) := by decide +kernel
theorem dL_law_30 : decode code 30 = .ok (.ifCond .eq 23, 3) := by decide +kernel
theorem dL_law_33 : decode code 33 = .ok (.aload_n 1, 1) := by decide +kernel
theorem dL_law_34 : decode code 34 = .ok (.iconst 0, 1) := by decide +kernel
theorem dL_law_35 : decode code 35 = .ok (.invokevirtual 91, 3) := by decide +kernel
theorem dL_law_38 : decode code 38 = .ok (.iconst (-1), 1) := by decide +kernel
theorem dL_law_39 : decode code 39 = .ok (.if_icmp .ne 14, 3) := by decide +kernel
theorem dL_law_42 : decode code 42 = .ok (.aload_n 1, 1) := by decide +kernel
theorem dL_law_43 : decode code 43 = .ok (.invokevirtual 79, 3) := by decide +kernel
theorem dL_law_46 : decode code 46 = .ok (.ifCond .ne 7, 3) := by decide +kernel
theorem dL_law_49 : decode code 49 = .ok (.iconst 1, 1) := by decide +kernel
theorem dL_law_50 : decode code 50 = .ok (.goto 4, 3) := by decide +kernel
theorem dL_law_53 : decode code 53 = .ok (.iconst 0, 1) := by decide +kernel
theorem dL_law_54 : decode code 54 = .ok (.istore 6, 2) := by decide +kernel
theorem dL_law_56 : decode code 56 = .ok (.bipush 6, 2) := by decide +kernel
theorem dL_law_58 : decode code 58 = .ok (.aload_n 0, 1) := by decide +kernel
theorem dL_law_59 : decode code 59 = .ok (.iconst 0, 1) := by decide +kernel
theorem dL_law_60 : decode code 60 = .ok (.invokestatic 94, 3) := by decide +kernel
theorem dL_law_63 : decode code 63 = .ok (.bipush 55, 2) := by decide +kernel
theorem dL_law_65 : decode code 65 = .ok (.invokestatic 52, 3) := by decide +kernel
theorem dL_law_68 : decode code 68 = .ok (.iadd, 1) := by decide +kernel
theorem dL_law_69 : decode code 69 = .ok (.istore 7, 2) := by decide +kernel
theorem dL_law_71 : decode code 71 = .ok (.iconst 0, 1) := by decide +kernel
theorem dL_law_72 : decode code 72 = .ok (.istore 8, 2) := by decide +kernel
theorem dL_law_74 : decode code 74 = .ok (.iload 8, 2) := by decide +kernel
theorem dL_law_76 : decode code 76 = .ok (.iload 7, 2) := by decide +kernel
theorem dL_law_78 : decode code 78 = .ok (.if_icmp .ge 1079, 3) := by decide +kernel
theorem dL_law_81 : decode code 81 = .ok (.iload 6, 2) := by decide +kernel
theorem dL_law_83 : decode code 83 = .ok (.ifCond .eq 1074, 3) := by decide +kernel
theorem dL_law_86 : decode code 86 = .ok (.aload_n 0, 1) := by decide +kernel
theorem dL_law_87 : decode code 87 = .ok (.iconst 1, 1) := by decide +kernel
theorem dL_law_88 : decode code 88 = .ok (.iload 8, 2) := by decide +kernel
theorem dL_law_90 : decode code 90 = .ok (.iadd, 1) := by decide +kernel
theorem dL_law_91 : decode code 91 = .ok (.invokestatic 94, 3) := by decide +kernel
theorem dL_law_94 : decode code 94 = .ok (.istore 9, 2) := by decide +kernel
theorem dL_law_96 : decode code 96 = .ok (.iload_n 2, 1) := by decide +kernel
theorem dL_law_97 : decode code 97 = .ok (.ifCond .ne 7, 3) := by decide +kernel
theorem dL_law_100 : decode code 100 = .ok (.iconst 0, 1) := by decide +kernel
theorem dL_law_101 : decode code 101 = .ok (.goto 11, 3) := by decide +kernel
theorem dL_law_104 : decode code 104 = .ok (.iload 9, 2) := by decide +kernel
theorem dL_law_106 : decode code 106 = .ok (.iconst 3, 1) := by decide +kernel
theorem dL_law_107 : decode code 107 = .ok (.ishr, 1) := by decide +kernel
theorem dL_law_108 : decode code 108 = .ok (.iload_n 2, 1) := by decide +kernel
theorem dL_law_109 : decode code 109 = .ok (.invokestatic 52, 3) := by decide +kernel
theorem dL_law_112 : decode code 112 = .ok (.istore 10, 2) := by decide +kernel
theorem dL_law_114 : decode code 114 = .ok (.iload 5, 2) := by decide +kernel
theorem dL_law_116 : decode code 116 = .ok (.ifCond .ne 7, 3) := by decide +kernel
theorem dL_law_119 : decode code 119 = .ok (.iconst 0, 1) := by decide +kernel
theorem dL_law_120 : decode code 120 = .ok (.goto 12, 3) := by decide +kernel
theorem dL_law_123 : decode code 123 = .ok (.iload 9, 2) := by decide +kernel
theorem dL_law_125 : decode code 125 = .ok (.iconst 3, 1) := by decide +kernel
theorem dL_law_126 : decode code 126 = .ok (.ishr, 1) := by decide +kernel
theorem dL_law_127 : decode code 127 = .ok (.iload 5, 2) := by decide +kernel
theorem dL_law_129 : decode code 129 = .ok (.invokestatic 52, 3) := by decide +kernel
theorem dL_law_132 : decode code 132 = .ok (.istore 11, 2) := by decide +kernel
theorem dL_law_134 : decode code 134 = .ok (.iload 4, 2) := by decide +kernel
theorem dL_law_136 : decode code 136 = .ok (.ifCond .ne 7, 3) := by decide +kernel
theorem dL_law_139 : decode code 139 = .ok (.iconst 0, 1) := by decide +kernel
theorem dL_law_140 : decode code 140 = .ok (.goto 12, 3) := by decide +kernel
theorem dL_law_143 : decode code 143 = .ok (.iload 9, 2) := by decide +kernel
theorem dL_law_145 : decode code 145 = .ok (.iconst 5, 1) := by decide +kernel
theorem dL_law_146 : decode code 146 = .ok (.ishr, 1) := by decide +kernel
theorem dL_law_147 : decode code 147 = .ok (.iload 4, 2) := by decide +kernel
theorem dL_law_149 : decode code 149 = .ok (.invokestatic 52, 3) := by decide +kernel
theorem dL_law_152 : decode code 152 = .ok (.istore 12, 2) := by decide +kernel
theorem dL_law_154 : decode code 154 = .ok (.iload 9, 2) := by decide +kernel
theorem dL_law_156 : decode code 156 = .ok (.bipush 20, 2) := by decide +kernel
theorem dL_law_158 : decode code 158 = .ok (.ishr, 1) := by decide +kernel
theorem dL_law_159 : decode code 159 = .ok (.bipush 24, 2) := by decide +kernel
theorem dL_law_161 : decode code 161 = .ok (.invokestatic 52, 3) := by decide +kernel
theorem dL_law_164 : decode code 164 = .ok (.istore 13, 2) := by decide +kernel
theorem dL_law_166 : decode code 166 = .ok (.iload_n 2, 1) := by decide +kernel
theorem dL_law_167 : decode code 167 = .ok (.ifCond .eq 9, 3) := by decide +kernel
theorem dL_law_170 : decode code 170 = .ok (.iload 13, 2) := by decide +kernel
theorem dL_law_172 : decode code 172 = .ok (.iconst 4, 1) := by decide +kernel
theorem dL_law_173 : decode code 173 = .ok (.if_icmp .ge 188, 3) := by decide +kernel
theorem dL_law_176 : decode code 176 = .ok (.iload 9, 2) := by decide +kernel
theorem dL_law_178 : decode code 178 = .ok (.bipush 12, 2) := by decide +kernel
theorem dL_law_180 : decode code 180 = .ok (.ishr, 1) := by decide +kernel
theorem dL_law_181 : decode code 181 = .ok (.iconst 2, 1) := by decide +kernel
theorem dL_law_182 : decode code 182 = .ok (.invokestatic 52, 3) := by decide +kernel
theorem dL_law_185 : decode code 185 = .ok (.ifCond .ne 7, 3) := by decide +kernel
theorem dL_law_188 : decode code 188 = .ok (.iconst 1, 1) := by decide +kernel
theorem dL_law_189 : decode code 189 = .ok (.goto 4, 3) := by decide +kernel
theorem dL_law_192 : decode code 192 = .ok (.iconst 0, 1) := by decide +kernel
theorem dL_law_193 : decode code 193 = .ok (.istore 14, 2) := by decide +kernel
theorem dL_law_195 : decode code 195 = .ok (.aload_n 1, 1) := by decide +kernel
theorem dL_law_196 : decode code 196 = .ok (.iload 9, 2) := by decide +kernel
theorem dL_law_198 : decode code 198 = .ok (.invokestatic 98, 3) := by decide +kernel
theorem dL_law_201 : decode code 201 = .ok (.iload 14, 2) := by decide +kernel
theorem dL_law_203 : decode code 203 = .ok (.ifCond .eq 11, 3) := by decide +kernel
theorem dL_law_206 : decode code 206 = .ok (.iload 9, 2) := by decide +kernel
theorem dL_law_208 : decode code 208 = .ok (.invokestatic 98, 3) := by decide +kernel
theorem dL_law_211 : decode code 211 = .ok (.goto 10, 3) := by decide +kernel
theorem dL_law_214 : decode code 214 = .ok (.iload 9, 2) := by decide +kernel
theorem dL_law_216 : decode code 216 = .ok (.iconst 3, 1) := by decide +kernel
theorem dL_law_217 : decode code 217 = .ok (.ishr, 1) := by decide +kernel
theorem dL_law_218 : decode code 218 = .ok (.invokestatic 98, 3) := by decide +kernel
theorem dL_law_221 : decode code 221 = .ok (.iload 14, 2) := by decide +kernel
theorem dL_law_223 : decode code 223 = .ok (.ifCond .eq 11, 3) := by decide +kernel
theorem dL_law_226 : decode code 226 = .ok (.iload 9, 2) := by decide +kernel
theorem dL_law_228 : decode code 228 = .ok (.invokestatic 98, 3) := by decide +kernel
theorem dL_law_231 : decode code 231 = .ok (.goto 11, 3) := by decide +kernel
theorem dL_law_234 : decode code 234 = .ok (.iload 9, 2) := by decide +kernel
theorem dL_law_236 : decode code 236 = .ok (.bipush 6, 2) := by decide +kernel
theorem dL_law_238 : decode code 238 = .ok (.ishr, 1) := by decide +kernel
theorem dL_law_239 : decode code 239 = .ok (.invokestatic 98, 3) := by decide +kernel
theorem dL_law_242 : decode code 242 = .ok (.iload 9, 2) := by decide +kernel
theorem dL_law_244 : decode code 244 = .ok (.bipush 9, 2) := by decide +kernel
theorem dL_law_246 : decode code 246 = .ok (.ishr, 1) := by decide +kernel
theorem dL_law_247 : decode code 247 = .ok (.iconst 3, 1) := by decide +kernel
theorem dL_law_248 : decode code 248 = .ok (.invokestatic 52, 3) := by decide +kernel
theorem dL_law_251 : decode code 251 = .ok (.invokestatic 75, 3) := by decide +kernel
theorem dL_law_254 : decode code 254 = .ok (.aload_n 1, 1) := by decide +kernel
theorem dL_law_255 : decode code 255 = .ok (.iload 9, 2) := by decide +kernel
theorem dL_law_257 : decode code 257 = .ok (.bipush 100, 2) := by decide +kernel
theorem dL_law_259 : decode code 259 = .ok (.invokestatic 52, 3) := by decide +kernel
theorem dL_law_262 : decode code 262 = .ok (.invokestatic 101, 3) := by decide +kernel
theorem dL_law_265 : decode code 265 = .ok (.istore 15, 2) := by decide +kernel
theorem dL_law_267 : decode code 267 = .ok (.aload_n 1, 1) := by decide +kernel
theorem dL_law_268 : decode code 268 = .ok (.iconst 0, 1) := by decide +kernel
theorem dL_law_269 : decode code 269 = .ok (.invokevirtual 104, 3) := by decide +kernel
theorem dL_law_272 : decode code 272 = .ok (.iload 9, 2) := by decide +kernel
theorem dL_law_274 : decode code 274 = .ok (.invokestatic 98, 3) := by decide +kernel
theorem dL_law_277 : decode code 277 = .ok (.bipush 8, 2) := by decide +kernel
theorem dL_law_279 : decode code 279 = .ok (.if_icmp .ne 8, 3) := by decide +kernel
theorem dL_law_282 : decode code 282 = .ok (.ldc 108, 2) := by decide +kernel
theorem dL_law_284 : decode code 284 = .ok (.goto 11, 3) := by decide +kernel
theorem dL_law_287 : decode code 287 = .ok (.bipush 97, 2) := by decide +kernel
theorem dL_law_289 : decode code 289 = .ok (.iload 9, 2) := by decide +kernel
theorem dL_law_291 : decode code 291 = .ok (.invokestatic 98, 3) := by decide +kernel
theorem dL_law_294 : decode code 294 = .ok (.iadd, 1) := by decide +kernel
theorem dL_law_295 : decode code 295 = .ok (.if_icmp .ne 45, 3) := by decide +kernel
theorem dL_law_298 : decode code 298 = .ok (.iload 15, 2) := by decide +kernel
theorem dL_law_300 : decode code 300 = .ok (.bipush (-3), 2) := by decide +kernel
theorem dL_law_302 : decode code 302 = .ok (.if_icmp .ne 20, 3) := by decide +kernel
theorem dL_law_305 : decode code 305 = .ok (.aload_n 1, 1) := by decide +kernel
theorem dL_law_306 : decode code 306 = .ok (.invokevirtual 79, 3) := by decide +kernel
theorem dL_law_309 : decode code 309 = .ok (.iconst 1, 1) := by decide +kernel
theorem dL_law_310 : decode code 310 = .ok (.if_icmp .eq 26, 3) := by decide +kernel
theorem dL_law_313 : decode code 313 = .ok (.iload_n 2, 1) := by decide +kernel
theorem dL_law_314 : decode code 314 = .ok (.bipush 30, 2) := by decide +kernel
theorem dL_law_316 : decode code 316 = .ok (.if_icmp .ne 24, 3) := by decide +kernel
theorem dL_law_319 : decode code 319 = .ok (.goto 17, 3) := by decide +kernel
theorem dL_law_322 : decode code 322 = .ok (.iload 15, 2) := by decide +kernel
theorem dL_law_324 : decode code 324 = .ok (.iload_n 2, 1) := by decide +kernel
theorem dL_law_325 : decode code 325 = .ok (.if_icmp .ne 15, 3) := by decide +kernel
theorem dL_law_328 : decode code 328 = .ok (.aload_n 1, 1) := by decide +kernel
theorem dL_law_329 : decode code 329 = .ok (.invokevirtual 79, 3) := by decide +kernel
theorem dL_law_332 : decode code 332 = .ok (.iconst 1, 1) := by decide +kernel
theorem dL_law_333 : decode code 333 = .ok (.if_icmp .ne 7, 3) := by decide +kernel
theorem dL_law_336 : decode code 336 = .ok (.iconst 1, 1) := by decide +kernel
theorem dL_law_337 : decode code 337 = .ok (.goto 4, 3) := by decide +kernel
theorem dL_law_340 : decode code 340 = .ok (.iconst 0, 1) := by decide +kernel
theorem dL_law_341 : decode code 341 = .ok (.istore 6, 2) := by decide +kernel
theorem dL_law_343 : decode code 343 = .ok (.iload_n 2, 1) := by decide +kernel
theorem dL_law_344 : decode code 344 = .ok (.iload 15, 2) := by decide +kernel
theorem dL_law_346 : decode code 346 = .ok (.bipush (-3), 2) := by decide +kernel
theorem dL_law_348 : decode code 348 = .ok (.if_icmp .ne 7, 3) := by decide +kernel
theorem dL_law_351 : decode code 351 = .ok (.iconst 0, 1) := by decide +kernel
theorem dL_law_352 : decode code 352 = .ok (.goto 4, 3) := by decide +kernel
theorem dL_law_355 : decode code 355 = .ok (.iconst 1, 1) := by decide +kernel
theorem dL_law_356 : decode code 356 = .ok (.iadd, 1) := by decide +kernel
theorem dL_law_357 : decode code 357 = .ok (.istore_n 2, 1) := by decide +kernel
theorem dL_law_358 : decode code 358 = .ok (.goto 747, 3) := by decide +kernel
theorem dL_law_361 : decode code 361 = .ok (.iload 13, 2) := by decide +kernel
theorem dL_law_363 : decode code 363 = .ok (.bipush 6, 2) := by decide +kernel
theorem dL_law_365 : decode code 365 = .ok (.if_icmp .ge 66, 3) := by decide +kernel
theorem dL_law_368 : decode code 368 = .ok (.iload 9, 2) := by decide +kernel
theorem dL_law_370 : decode code 370 = .ok (.bipush 9, 2) := by decide +kernel
theorem dL_law_372 : decode code 372 = .ok (.ishr, 1) := by decide +kernel
theorem dL_law_373 : decode code 373 = .ok (.bipush 100, 2) := by decide +kernel
theorem dL_law_375 : decode code 375 = .ok (.invokestatic 52, 3) := by decide +kernel
theorem dL_law_378 : decode code 378 = .ok (.istore 14, 2) := by decide +kernel
theorem dL_law_380 : decode code 380 = .ok (.aload_n 1, 1) := by decide +kernel
theorem dL_law_381 : decode code 381 = .ok (.iload 10, 2) := by decide +kernel
theorem dL_law_383 : decode code 383 = .ok (.iload 14, 2) := by decide +kernel
theorem dL_law_385 : decode code 385 = .ok (.invokevirtual 109, 3) := by decide +kernel
theorem dL_law_388 : decode code 388 = .ok (.pop, 1) := by decide +kernel
theorem dL_law_389 : decode code 389 = .ok (.aload_n 1, 1) := by decide +kernel
theorem dL_law_390 : decode code 390 = .ok (.iload 10, 2) := by decide +kernel
theorem dL_law_392 : decode code 392 = .ok (.iload 14, 2) := by decide +kernel
theorem dL_law_394 : decode code 394 = .ok (.invokevirtual 109, 3) := by decide +kernel
