theorem dL_same_0 : decode cL_same 0 = .ok (.iconst 1, 1) := by decide +kernel
theorem dL_same_1 : decode cL_same 1 = .ok (.istore 9, 2) := by decide +kernel
theorem dL_same_3 : decode cL_same 3 = .ok (.iconst 0, 1) := by decide +kernel
theorem dL_same_4 : decode cL_same 4 = .ok (.istore 10, 2) := by decide +kernel
theorem dL_same_6 : decode cL_same 6 = .ok (.iload 10, 2) := by decide +kernel
theorem dL_same_8 : decode cL_same 8 = .ok (.iconst 4, 1) := by decide +kernel
theorem dL_same_9 : decode cL_same 9 = .ok (.if_icmp .ge 429, 3) := by decide +kernel
theorem dL_same_12 : decode cL_same 12 = .ok (.iload 9, 2) := by decide +kernel
theorem dL_same_14 : decode cL_same 14 = .ok (.ifCond .eq 424, 3) := by decide +kernel
theorem dL_same_17 : decode cL_same 17 = .ok (.iload_n 1, 1) := by decide +kernel
theorem dL_same_18 : decode cL_same 18 = .ok (.iload 10, 2) := by decide +kernel
theorem dL_same_20 : decode cL_same 20 = .ok (.ishr, 1) := by decide +kernel
theorem dL_same_21 : decode cL_same 21 = .ok (.iconst 3, 1) := by decide +kernel
theorem dL_same_22 : decode cL_same 22 = .ok (.invokestatic 51, 3) := by decide +kernel
theorem dL_same_25 : decode cL_same 25 = .ok (.istore 11, 2) := by decide +kernel
theorem dL_same_27 : decode cL_same 27 = .ok (.iconst 0, 1) := by decide +kernel
theorem dL_same_28 : decode cL_same 28 = .ok (.istore 12, 2) := by decide +kernel
theorem dL_same_30 : decode cL_same 30 = .ok (.iconst 0, 1) := by decide +kernel
theorem dL_same_31 : decode cL_same 31 = .ok (.istore 13, 2) := by decide +kernel
theorem dL_same_33 : decode cL_same 33 = .ok (.iconst 0, 1) := by decide +kernel
theorem dL_same_34 : decode cL_same 34 = .ok (.istore 14, 2) := by decide +kernel
theorem dL_same_36 : decode cL_same 36 = .ok (.iconst 0, 1) := by decide +kernel
theorem dL_same_37 : decode cL_same 37 = .ok (.istore 15, 2) := by decide +kernel
theorem dL_same_39 : decode cL_same 39 = .ok (.iload 15, 2) := by decide +kernel
theorem dL_same_41 : decode cL_same 41 = .ok (.bipush 6, 2) := by decide +kernel
theorem dL_same_43 : decode cL_same 43 = .ok (.if_icmp .ge 176, 3) := by decide +kernel
theorem dL_same_46 : decode cL_same 46 = .ok (.aload 7, 2) := by decide +kernel
theorem dL_same_48 : decode cL_same 48 = .ok (.bipush 7, 2) := by decide +kernel
theorem dL_same_50 : decode cL_same 50 = .ok (.iload 10, 2) := by decide +kernel
theorem dL_same_52 : decode cL_same 52 = .ok (.imul, 1) := by decide +kernel
theorem dL_same_53 : decode cL_same 53 = .ok (.iaload, 1) := by decide +kernel
theorem dL_same_54 : decode cL_same 54 = .ok (.ifCond .ne 7, 3) := by decide +kernel
theorem dL_same_57 : decode cL_same 57 = .ok (.iconst 0, 1) := by decide +kernel
theorem dL_same_58 : decode cL_same 58 = .ok (.goto 27, 3) := by decide +kernel
theorem dL_same_61 : decode cL_same 61 = .ok (.iload 10, 2) := by decide +kernel
theorem dL_same_63 : decode cL_same 63 = .ok (.aload 7, 2) := by decide +kernel
theorem dL_same_65 : decode cL_same 65 = .ok (.bipush 7, 2) := by decide +kernel
theorem dL_same_67 : decode cL_same 67 = .ok (.iload 10, 2) := by decide +kernel
theorem dL_same_69 : decode cL_same 69 = .ok (.imul, 1) := by decide +kernel
theorem dL_same_70 : decode cL_same 70 = .ok (.iaload, 1) := by decide +kernel
theorem dL_same_71 : decode cL_same 71 = .ok (.iconst 1, 1) := by decide +kernel
theorem dL_same_72 : decode cL_same 72 = .ok (.isub, 1) := by decide +kernel
theorem dL_same_73 : decode cL_same 73 = .ok (.invokestatic 40, 3) := by decide +kernel
theorem dL_same_76 : decode cL_same 76 = .ok (.iload 15, 2) := by decide +kernel
theorem dL_same_78 : decode cL_same 78 = .ok (.aload 5, 2) := by decide +kernel
theorem dL_same_80 : decode cL_same 80 = .ok (.aload 6, 2) := by decide +kernel
theorem dL_same_82 : decode cL_same 82 = .ok (.invokestatic 43, 3) := by decide +kernel
theorem dL_same_85 : decode cL_same 85 = .ok (.istore 16, 2) := by decide +kernel
theorem dL_same_87 : decode cL_same 87 = .ok (.iload 12, 2) := by decide +kernel
theorem dL_same_89 : decode cL_same 89 = .ok (.aload 4, 2) := by decide +kernel
theorem dL_same_91 : decode cL_same 91 = .ok (.bipush 6, 2) := by decide +kernel
theorem dL_same_93 : decode cL_same 93 = .ok (.iload 10, 2) := by decide +kernel
theorem dL_same_95 : decode cL_same 95 = .ok (.imul, 1) := by decide +kernel
theorem dL_same_96 : decode cL_same 96 = .ok (.iload 15, 2) := by decide +kernel
theorem dL_same_98 : decode cL_same 98 = .ok (.iadd, 1) := by decide +kernel
theorem dL_same_99 : decode cL_same 99 = .ok (.iaload, 1) := by decide +kernel
theorem dL_same_100 : decode cL_same 100 = .ok (.aload_n 2, 1) := by decide +kernel
theorem dL_same_101 : decode cL_same 101 = .ok (.iconst 3, 1) := by decide +kernel
theorem dL_same_102 : decode cL_same 102 = .ok (.aload_n 3, 1) := by decide +kernel
theorem dL_same_103 : decode cL_same 103 = .ok (.iconst 3, 1) := by decide +kernel
theorem dL_same_104 : decode cL_same 104 = .ok (.iload 15, 2) := by decide +kernel
theorem dL_same_106 : decode cL_same 106 = .ok (.imul, 1) := by decide +kernel
theorem dL_same_107 : decode cL_same 107 = .ok (.iaload, 1) := by decide +kernel
theorem dL_same_108 : decode cL_same 108 = .ok (.imul, 1) := by decide +kernel
theorem dL_same_109 : decode cL_same 109 = .ok (.iload 11, 2) := by decide +kernel
theorem dL_same_111 : decode cL_same 111 = .ok (.iadd, 1) := by decide +kernel
theorem dL_same_112 : decode cL_same 112 = .ok (.iaload, 1) := by decide +kernel
theorem dL_same_113 : decode cL_same 113 = .ok (.imul, 1) := by decide +kernel
theorem dL_same_114 : decode cL_same 114 = .ok (.iadd, 1) := by decide +kernel
theorem dL_same_115 : decode cL_same 115 = .ok (.istore 12, 2) := by decide +kernel
theorem dL_same_117 : decode cL_same 117 = .ok (.iload 13, 2) := by decide +kernel
theorem dL_same_119 : decode cL_same 119 = .ok (.iload 16, 2) := by decide +kernel
theorem dL_same_121 : decode cL_same 121 = .ok (.aload_n 2, 1) := by decide +kernel
theorem dL_same_122 : decode cL_same 122 = .ok (.iconst 3, 1) := by decide +kernel
theorem dL_same_123 : decode cL_same 123 = .ok (.aload_n 3, 1) := by decide +kernel
theorem dL_same_124 : decode cL_same 124 = .ok (.iconst 3, 1) := by decide +kernel
theorem dL_same_125 : decode cL_same 125 = .ok (.iload 15, 2) := by decide +kernel
theorem dL_same_127 : decode cL_same 127 = .ok (.imul, 1) := by decide +kernel
theorem dL_same_128 : decode cL_same 128 = .ok (.iaload, 1) := by decide +kernel
theorem dL_same_129 : decode cL_same 129 = .ok (.imul, 1) := by decide +kernel
theorem dL_same_130 : decode cL_same 130 = .ok (.iload 11, 2) := by decide +kernel
theorem dL_same_132 : decode cL_same 132 = .ok (.iadd, 1) := by decide +kernel
theorem dL_same_133 : decode cL_same 133 = .ok (.iaload, 1) := by decide +kernel
theorem dL_same_134 : decode cL_same 134 = .ok (.imul, 1) := by decide +kernel
theorem dL_same_135 : decode cL_same 135 = .ok (.iadd, 1) := by decide +kernel
theorem dL_same_136 : decode cL_same 136 = .ok (.istore 13, 2) := by decide +kernel
theorem dL_same_138 : decode cL_same 138 = .ok (.iload 14, 2) := by decide +kernel
theorem dL_same_140 : decode cL_same 140 = .ok (.iload 16, 2) := by decide +kernel
theorem dL_same_142 : decode cL_same 142 = .ok (.iadd, 1) := by decide +kernel
theorem dL_same_143 : decode cL_same 143 = .ok (.istore 14, 2) := by decide +kernel
theorem dL_same_145 : decode cL_same 145 = .ok (.iload 9, 2) := by decide +kernel
theorem dL_same_147 : decode cL_same 147 = .ok (.ifCond .eq 63, 3) := by decide +kernel
theorem dL_same_150 : decode cL_same 150 = .ok (.aload_n 0, 1) := by decide +kernel
theorem dL_same_151 : decode cL_same 151 = .ok (.iload 10, 2) := by decide +kernel
theorem dL_same_153 : decode cL_same 153 = .ok (.iload 15, 2) := by decide +kernel
theorem dL_same_155 : decode cL_same 155 = .ok (.invokevirtual 73, 3) := by decide +kernel
theorem dL_same_158 : decode cL_same 158 = .ok (.aload 4, 2) := by decide +kernel
theorem dL_same_160 : decode cL_same 160 = .ok (.bipush 6, 2) := by decide +kernel
theorem dL_same_162 : decode cL_same 162 = .ok (.iload 10, 2) := by decide +kernel
theorem dL_same_164 : decode cL_same 164 = .ok (.imul, 1) := by decide +kernel
theorem dL_same_165 : decode cL_same 165 = .ok (.iload 15, 2) := by decide +kernel
theorem dL_same_167 : decode cL_same 167 = .ok (.iadd, 1) := by decide +kernel
theorem dL_same_168 : decode cL_same 168 = .ok (.iaload, 1) := by decide +kernel
theorem dL_same_169 : decode cL_same 169 = .ok (.if_icmp .ne 41, 3) := by decide +kernel
theorem dL_same_172 : decode cL_same 172 = .ok (.aload 7, 2) := by decide +kernel
theorem dL_same_174 : decode cL_same 174 = .ok (.bipush 7, 2) := by decide +kernel
theorem dL_same_176 : decode cL_same 176 = .ok (.iload 10, 2) := by decide +kernel
theorem dL_same_178 : decode cL_same 178 = .ok (.imul, 1) := by decide +kernel
theorem dL_same_179 : decode cL_same 179 = .ok (.iaload, 1) := by decide +kernel
theorem dL_same_180 : decode cL_same 180 = .ok (.ifCond .eq 26, 3) := by decide +kernel
theorem dL_same_183 : decode cL_same 183 = .ok (.aload_n 0, 1) := by decide +kernel
theorem dL_same_184 : decode cL_same 184 = .ok (.iload 10, 2) := by decide +kernel
theorem dL_same_186 : decode cL_same 186 = .ok (.aload 7, 2) := by decide +kernel
theorem dL_same_188 : decode cL_same 188 = .ok (.bipush 7, 2) := by decide +kernel
theorem dL_same_190 : decode cL_same 190 = .ok (.iload 10, 2) := by decide +kernel
theorem dL_same_192 : decode cL_same 192 = .ok (.imul, 1) := by decide +kernel
theorem dL_same_193 : decode cL_same 193 = .ok (.iaload, 1) := by decide +kernel
theorem dL_same_194 : decode cL_same 194 = .ok (.iconst 1, 1) := by decide +kernel
theorem dL_same_195 : decode cL_same 195 = .ok (.isub, 1) := by decide +kernel
theorem dL_same_196 : decode cL_same 196 = .ok (.iload 15, 2) := by decide +kernel
theorem dL_same_198 : decode cL_same 198 = .ok (.invokevirtual 76, 3) := by decide +kernel
theorem dL_same_201 : decode cL_same 201 = .ok (.iload 16, 2) := by decide +kernel
theorem dL_same_203 : decode cL_same 203 = .ok (.if_icmp .ne 7, 3) := by decide +kernel
theorem dL_same_206 : decode cL_same 206 = .ok (.iconst 1, 1) := by decide +kernel
theorem dL_same_207 : decode cL_same 207 = .ok (.goto 4, 3) := by decide +kernel
theorem dL_same_210 : decode cL_same 210 = .ok (.iconst 0, 1) := by decide +kernel
theorem dL_same_211 : decode cL_same 211 = .ok (.istore 9, 2) := by decide +kernel
theorem dL_same_213 : decode cL_same 213 = .ok (.iinc 15 1, 3) := by decide +kernel
theorem dL_same_216 : decode cL_same 216 = .ok (.goto (-177), 3) := by decide +kernel
theorem dL_same_219 : decode cL_same 219 = .ok (.iload 9, 2) := by decide +kernel
theorem dL_same_221 : decode cL_same 221 = .ok (.ifCond .eq 208, 3) := by decide +kernel
theorem dL_same_224 : decode cL_same 224 = .ok (.aload_n 0, 1) := by decide +kernel
theorem dL_same_225 : decode cL_same 225 = .ok (.iload 10, 2) := by decide +kernel
theorem dL_same_227 : decode cL_same 227 = .ok (.iconst (-1), 1) := by decide +kernel
theorem dL_same_228 : decode cL_same 228 = .ok (.invokevirtual 73, 3) := by decide +kernel
theorem dL_same_231 : decode cL_same 231 = .ok (.iload 10, 2) := by decide +kernel
theorem dL_same_233 : decode cL_same 233 = .ok (.aload 4, 2) := by decide +kernel
theorem dL_same_235 : decode cL_same 235 = .ok (.invokestatic 34, 3) := by decide +kernel
theorem dL_same_238 : decode cL_same 238 = .ok (.if_icmp .ne 191, 3) := by decide +kernel
theorem dL_same_241 : decode cL_same 241 = .ok (.aload_n 0, 1) := by decide +kernel
theorem dL_same_242 : decode cL_same 242 = .ok (.iload 10, 2) := by decide +kernel
theorem dL_same_244 : decode cL_same 244 = .ok (.iload 11, 2) := by decide +kernel
theorem dL_same_246 : decode cL_same 246 = .ok (.invokevirtual 79, 3) := by decide +kernel
theorem dL_same_249 : decode cL_same 249 = .ok (.iload 12, 2) := by decide +kernel
theorem dL_same_251 : decode cL_same 251 = .ok (.iload 10, 2) := by decide +kernel
theorem dL_same_253 : decode cL_same 253 = .ok (.aload 4, 2) := by decide +kernel
theorem dL_same_255 : decode cL_same 255 = .ok (.invokestatic 34, 3) := by decide +kernel
theorem dL_same_258 : decode cL_same 258 = .ok (.invokestatic 82, 3) := by decide +kernel
theorem dL_same_261 : decode cL_same 261 = .ok (.if_icmp .ne 168, 3) := by decide +kernel
theorem dL_same_264 : decode cL_same 264 = .ok (.aload_n 0, 1) := by decide +kernel
theorem dL_same_265 : decode cL_same 265 = .ok (.iload 10, 2) := by decide +kernel
theorem dL_same_267 : decode cL_same 267 = .ok (.bipush 6, 2) := by decide +kernel
theorem dL_same_269 : decode cL_same 269 = .ok (.iload 11, 2) := by decide +kernel
theorem dL_same_271 : decode cL_same 271 = .ok (.iadd, 1) := by decide +kernel
theorem dL_same_272 : decode cL_same 272 = .ok (.invokevirtual 85, 3) := by decide +kernel
theorem dL_same_275 : decode cL_same 275 = .ok (.iload 13, 2) := by decide +kernel
theorem dL_same_277 : decode cL_same 277 = .ok (.iload 14, 2) := by decide +kernel
theorem dL_same_279 : decode cL_same 279 = .ok (.invokestatic 82, 3) := by decide +kernel
theorem dL_same_282 : decode cL_same 282 = .ok (.if_icmp .ne 147, 3) := by decide +kernel
theorem dL_same_285 : decode cL_same 285 = .ok (.aload_n 0, 1) := by decide +kernel
theorem dL_same_286 : decode cL_same 286 = .ok (.iload 10, 2) := by decide +kernel
theorem dL_same_288 : decode cL_same 288 = .ok (.iconst 0, 1) := by decide +kernel
theorem dL_same_289 : decode cL_same 289 = .ok (.invokevirtual 85, 3) := by decide +kernel
theorem dL_same_292 : decode cL_same 292 = .ok (.aload 7, 2) := by decide +kernel
theorem dL_same_294 : decode cL_same 294 = .ok (.bipush 7, 2) := by decide +kernel
theorem dL_same_296 : decode cL_same 296 = .ok (.iload 10, 2) := by decide +kernel
theorem dL_same_298 : decode cL_same 298 = .ok (.imul, 1) := by decide +kernel
theorem dL_same_299 : decode cL_same 299 = .ok (.iaload, 1) := by decide +kernel
theorem dL_same_300 : decode cL_same 300 = .ok (.if_icmp .ne 129, 3) := by decide +kernel
theorem dL_same_303 : decode cL_same 303 = .ok (.aload_n 0, 1) := by decide +kernel
theorem dL_same_304 : decode cL_same 304 = .ok (.iload 10, 2) := by decide +kernel
theorem dL_same_306 : decode cL_same 306 = .ok (.iconst 1, 1) := by decide +kernel
theorem dL_same_307 : decode cL_same 307 = .ok (.invokevirtual 85, 3) := by decide +kernel
theorem dL_same_310 : decode cL_same 310 = .ok (.aload 7, 2) := by decide +kernel
theorem dL_same_312 : decode cL_same 312 = .ok (.bipush 7, 2) := by decide +kernel
theorem dL_same_314 : decode cL_same 314 = .ok (.iload 10, 2) := by decide +kernel
theorem dL_same_316 : decode cL_same 316 = .ok (.imul, 1) := by decide +kernel
theorem dL_same_317 : decode cL_same 317 = .ok (.iconst 1, 1) := by decide +kernel
theorem dL_same_318 : decode cL_same 318 = .ok (.iadd, 1) := by decide +kernel
theorem dL_same_319 : decode cL_same 319 = .ok (.iaload, 1) := by decide +kernel
theorem dL_same_320 : decode cL_same 320 = .ok (.if_icmp .ne 109, 3) := by decide +kernel
theorem dL_same_323 : decode cL_same 323 = .ok (.aload_n 0, 1) := by decide +kernel
theorem dL_same_324 : decode cL_same 324 = .ok (.iload 10, 2) := by decide +kernel
theorem dL_same_326 : decode cL_same 326 = .ok (.iconst 2, 1) := by decide +kernel
theorem dL_same_327 : decode cL_same 327 = .ok (.invokevirtual 85, 3) := by decide +kernel
theorem dL_same_330 : decode cL_same 330 = .ok (.iload 10, 2) := by decide +kernel
theorem dL_same_332 : decode cL_same 332 = .ok (.aload_n 3, 1) := by decide +kernel
theorem dL_same_333 : decode cL_same 333 = .ok (.aload 5, 2) := by decide +kernel
theorem dL_same_335 : decode cL_same 335 = .ok (.aload 6, 2) := by decide +kernel
theorem dL_same_337 : decode cL_same 337 = .ok (.aload 7, 2) := by decide +kernel
theorem dL_same_339 : decode cL_same 339 = .ok (.invokestatic 67, 3) := by decide +kernel
theorem dL_same_342 : decode cL_same 342 = .ok (.if_icmp .ne 87, 3) := by decide +kernel
theorem dL_same_345 : decode cL_same 345 = .ok (.aload_n 0, 1) := by decide +kernel
theorem dL_same_346 : decode cL_same 346 = .ok (.iload 10, 2) := by decide +kernel
theorem dL_same_348 : decode cL_same 348 = .ok (.iconst 3, 1) := by decide +kernel
theorem dL_same_349 : decode cL_same 349 = .ok (.invokevirtual 85, 3) := by decide +kernel
theorem dL_same_352 : decode cL_same 352 = .ok (.iload 10, 2) := by decide +kernel
theorem dL_same_354 : decode cL_same 354 = .ok (.aload_n 3, 1) := by decide +kernel
theorem dL_same_355 : decode cL_same 355 = .ok (.aload 5, 2) := by decide +kernel
theorem dL_same_357 : decode cL_same 357 = .ok (.aload 6, 2) := by decide +kernel
theorem dL_same_359 : decode cL_same 359 = .ok (.aload 7, 2) := by decide +kernel
theorem dL_same_361 : decode cL_same 361 = .ok (.invokestatic 47, 3) := by decide +kernel
theorem dL_same_364 : decode cL_same 364 = .ok (.if_icmp .ne 65, 3) := by decide +kernel
theorem dL_same_367 : decode cL_same 367 = .ok (.aload_n 0, 1) := by decide +kernel
theorem dL_same_368 : decode cL_same 368 = .ok (.iload 10, 2) := by decide +kernel
theorem dL_same_370 : decode cL_same 370 = .ok (.iconst 4, 1) := by decide +kernel
theorem dL_same_371 : decode cL_same 371 = .ok (.invokevirtual 85, 3) := by decide +kernel
theorem dL_same_374 : decode cL_same 374 = .ok (.aload 7, 2) := by decide +kernel
theorem dL_same_376 : decode cL_same 376 = .ok (.bipush 7, 2) := by decide +kernel
theorem dL_same_378 : decode cL_same 378 = .ok (.iload 10, 2) := by decide +kernel
theorem dL_same_380 : decode cL_same 380 = .ok (.imul, 1) := by decide +kernel
theorem dL_same_381 : decode cL_same 381 = .ok (.iconst 3, 1) := by decide +kernel
theorem dL_same_382 : decode cL_same 382 = .ok (.iadd, 1) := by decide +kernel
theorem dL_same_383 : decode cL_same 383 = .ok (.iaload, 1) := by decide +kernel
theorem dL_same_384 : decode cL_same 384 = .ok (.iconst 1, 1) := by decide +kernel
theorem dL_same_385 : decode cL_same 385 = .ok (.isub, 1) := by decide +kernel
theorem dL_same_386 : decode cL_same 386 = .ok (.if_icmp .ne 43, 3) := by decide +kernel
theorem dL_same_389 : decode cL_same 389 = .ok (.aload_n 0, 1) := by decide +kernel
theorem dL_same_390 : decode cL_same 390 = .ok (.iload 10, 2) := by decide +kernel
theorem dL_same_392 : decode cL_same 392 = .ok (.iconst 5, 1) := by decide +kernel
theorem dL_same_393 : decode cL_same 393 = .ok (.invokevirtual 85, 3) := by decide +kernel
theorem dL_same_396 : decode cL_same 396 = .ok (.aload 7, 2) := by decide +kernel
theorem dL_same_398 : decode cL_same 398 = .ok (.bipush 7, 2) := by decide +kernel
theorem dL_same_400 : decode cL_same 400 = .ok (.iload 10, 2) := by decide +kernel
theorem dL_same_402 : decode cL_same 402 = .ok (.imul, 1) := by decide +kernel
theorem dL_same_403 : decode cL_same 403 = .ok (.iconst 4, 1) := by decide +kernel
theorem dL_same_404 : decode cL_same 404 = .ok (.iadd, 1) := by decide +kernel
theorem dL_same_405 : decode cL_same 405 = .ok (.iaload, 1) := by decide +kernel
theorem dL_same_406 : decode cL_same 406 = .ok (.if_icmp .ne 23, 3) := by decide +kernel
theorem dL_same_409 : decode cL_same 409 = .ok (.aload_n 0, 1) := by decide +kernel
theorem dL_same_410 : decode cL_same 410 = .ok (.iload 10, 2) := by decide +kernel
theorem dL_same_412 : decode cL_same 412 = .ok (.invokevirtual 88, 3) := by decide +kernel
theorem dL_same_415 : decode cL_same 415 = .ok (.aload 8, 2) := by decide +kernel
theorem dL_same_417 : decode cL_same 417 = .ok (.iconst 4, 1) := by decide +kernel
theorem dL_same_418 : decode cL_same 418 = .ok (.iload 10, 2) := by decide +kernel
theorem dL_same_420 : decode cL_same 420 = .ok (.iadd, 1) := by decide +kernel
theorem dL_same_421 : decode cL_same 421 = .ok (.iaload, 1) := by decide +kernel
theorem dL_same_422 : decode cL_same 422 = .ok (.if_icmp .ne 7, 3) := by decide +kernel
theorem dL_same_425 : decode cL_same 425 = .ok (.iconst 1, 1) := by decide +kernel
theorem dL_same_426 : decode cL_same 426 = .ok (.goto 4, 3) := by decide +kernel
theorem dL_same_429 : decode cL_same 429 = .ok (.iconst 0, 1) := by decide +kernel
theorem dL_same_430 : decode cL_same 430 = .ok (.istore 9, 2) := by decide +kernel
theorem dL_same_432 : decode cL_same 432 = .ok (.iinc 10 1, 3) := by decide +kernel
theorem dL_same_435 : decode cL_same 435 = .ok (.goto (-429), 3) := by decide +kernel
theorem dL_same_438 : decode cL_same 438 = .ok (.iconst 0, 1) := by decide +kernel
theorem dL_same_439 : decode cL_same 439 = .ok (.istore 10, 2) := by decide +kernel
theorem dL_same_441 : decode cL_same 441 = .ok (.iload 10, 2) := by decide +kernel
theorem dL_same_443 : decode cL_same 443 = .ok (.bipush 6, 2) := by decide +kernel
theorem dL_same_445 : decode cL_same 445 = .ok (.if_icmp .ge 167, 3) := by decide +kernel
theorem dL_same_448 : decode cL_same 448 = .ok (.iload 9, 2) := by decide +kernel
theorem dL_same_450 : decode cL_same 450 = .ok (.ifCond .eq 162, 3) := by decide +kernel
theorem dL_same_453 : decode cL_same 453 = .ok (.aload 4, 2) := by decide +kernel
theorem dL_same_455 : decode cL_same 455 = .ok (.iload 10, 2) := by decide +kernel
theorem dL_same_457 : decode cL_same 457 = .ok (.iaload, 1) := by decide +kernel
theorem dL_same_458 : decode cL_same 458 = .ok (.aload 4, 2) := by decide +kernel
theorem dL_same_460 : decode cL_same 460 = .ok (.bipush 6, 2) := by decide +kernel
theorem dL_same_462 : decode cL_same 462 = .ok (.iload 10, 2) := by decide +kernel
theorem dL_same_464 : decode cL_same 464 = .ok (.iadd, 1) := by decide +kernel
theorem dL_same_465 : decode cL_same 465 = .ok (.iaload, 1) := by decide +kernel
theorem dL_same_466 : decode cL_same 466 = .ok (.iadd, 1) := by decide +kernel
theorem dL_same_467 : decode cL_same 467 = .ok (.aload 4, 2) := by decide +kernel
theorem dL_same_469 : decode cL_same 469 = .ok (.bipush 12, 2) := by decide +kernel
theorem dL_same_471 : decode cL_same 471 = .ok (.iload 10, 2) := by decide +kernel
theorem dL_same_473 : decode cL_same 473 = .ok (.iadd, 1) := by decide +kernel
theorem dL_same_474 : decode cL_same 474 = .ok (.iaload, 1) := by decide +kernel
theorem dL_same_475 : decode cL_same 475 = .ok (.iadd, 1) := by decide +kernel
theorem dL_same_476 : decode cL_same 476 = .ok (.aload 4, 2) := by decide +kernel
theorem dL_same_478 : decode cL_same 478 = .ok (.bipush 18, 2) := by decide +kernel
theorem dL_same_480 : decode cL_same 480 = .ok (.iload 10, 2) := by decide +kernel
theorem dL_same_482 : decode cL_same 482 = .ok (.iadd, 1) := by decide +kernel
theorem dL_same_483 : decode cL_same 483 = .ok (.iaload, 1) := by decide +kernel
theorem dL_same_484 : decode cL_same 484 = .ok (.iadd, 1) := by decide +kernel
theorem dL_same_485 : decode cL_same 485 = .ok (.istore 11, 2) := by decide +kernel
theorem dL_same_487 : decode cL_same 487 = .ok (.iconst 0, 1) := by decide +kernel
theorem dL_same_488 : decode cL_same 488 = .ok (.istore 12, 2) := by decide +kernel
theorem dL_same_490 : decode cL_same 490 = .ok (.iconst 0, 1) := by decide +kernel
theorem dL_same_491 : decode cL_same 491 = .ok (.istore 13, 2) := by decide +kernel
theorem dL_same_493 : decode cL_same 493 = .ok (.iload 13, 2) := by decide +kernel
theorem dL_same_495 : decode cL_same 495 = .ok (.bipush 12, 2) := by decide +kernel
theorem dL_same_497 : decode cL_same 497 = .ok (.if_icmp .ge 25, 3) := by decide +kernel
theorem dL_same_500 : decode cL_same 500 = .ok (.iload 12, 2) := by decide +kernel
theorem dL_same_502 : decode cL_same 502 = .ok (.iload 13, 2) := by decide +kernel
theorem dL_same_504 : decode cL_same 504 = .ok (.iload 10, 2) := by decide +kernel
theorem dL_same_506 : decode cL_same 506 = .ok (.aload 5, 2) := by decide +kernel
theorem dL_same_508 : decode cL_same 508 = .ok (.aload 6, 2) := by decide +kernel
theorem dL_same_510 : decode cL_same 510 = .ok (.invokestatic 43, 3) := by decide +kernel
theorem dL_same_513 : decode cL_same 513 = .ok (.iadd, 1) := by decide +kernel
theorem dL_same_514 : decode cL_same 514 = .ok (.istore 12, 2) := by decide +kernel
theorem dL_same_516 : decode cL_same 516 = .ok (.iinc 13 1, 3) := by decide +kernel
theorem dL_same_519 : decode cL_same 519 = .ok (.goto (-26), 3) := by decide +kernel
theorem dL_same_522 : decode cL_same 522 = .ok (.aload_n 0, 1) := by decide +kernel
theorem dL_same_523 : decode cL_same 523 = .ok (.iload 10, 2) := by decide +kernel
theorem dL_same_525 : decode cL_same 525 = .ok (.invokevirtual 91, 3) := by decide +kernel
theorem dL_same_528 : decode cL_same 528 = .ok (.aload_n 3, 1) := by decide +kernel
theorem dL_same_529 : decode cL_same 529 = .ok (.iconst 3, 1) := by decide +kernel
theorem dL_same_530 : decode cL_same 530 = .ok (.iload 10, 2) := by decide +kernel
theorem dL_same_532 : decode cL_same 532 = .ok (.imul, 1) := by decide +kernel
theorem dL_same_533 : decode cL_same 533 = .ok (.iconst 1, 1) := by decide +kernel
theorem dL_same_534 : decode cL_same 534 = .ok (.iadd, 1) := by decide +kernel
theorem dL_same_535 : decode cL_same 535 = .ok (.iaload, 1) := by decide +kernel
theorem dL_same_536 : decode cL_same 536 = .ok (.if_icmp .ne 67, 3) := by decide +kernel
theorem dL_same_539 : decode cL_same 539 = .ok (.aload_n 0, 1) := by decide +kernel
theorem dL_same_540 : decode cL_same 540 = .ok (.iload 10, 2) := by decide +kernel
theorem dL_same_542 : decode cL_same 542 = .ok (.iconst 0, 1) := by decide +kernel
theorem dL_same_543 : decode cL_same 543 = .ok (.invokevirtual 94, 3) := by decide +kernel
theorem dL_same_546 : decode cL_same 546 = .ok (.aload_n 3, 1) := by decide +kernel
theorem dL_same_547 : decode cL_same 547 = .ok (.iconst 3, 1) := by decide +kernel
theorem dL_same_548 : decode cL_same 548 = .ok (.iload 10, 2) := by decide +kernel
theorem dL_same_550 : decode cL_same 550 = .ok (.imul, 1) := by decide +kernel
theorem dL_same_551 : decode cL_same 551 = .ok (.iconst 1, 1) := by decide +kernel
theorem dL_same_552 : decode cL_same 552 = .ok (.iadd, 1) := by decide +kernel
theorem dL_same_553 : decode cL_same 553 = .ok (.iaload, 1) := by decide +kernel
theorem dL_same_554 : decode cL_same 554 = .ok (.if_icmp .ne 49, 3) := by decide +kernel
theorem dL_same_557 : decode cL_same 557 = .ok (.aload_n 0, 1) := by decide +kernel
theorem dL_same_558 : decode cL_same 558 = .ok (.iload 10, 2) := by decide +kernel
theorem dL_same_560 : decode cL_same 560 = .ok (.iconst 1, 1) := by decide +kernel
theorem dL_same_561 : decode cL_same 561 = .ok (.invokevirtual 94, 3) := by decide +kernel
theorem dL_same_564 : decode cL_same 564 = .ok (.iload 11, 2) := by decide +kernel
theorem dL_same_566 : decode cL_same 566 = .ok (.if_icmp .ne 37, 3) := by decide +kernel
theorem dL_same_569 : decode cL_same 569 = .ok (.aload_n 0, 1) := by decide +kernel
theorem dL_same_570 : decode cL_same 570 = .ok (.iload 10, 2) := by decide +kernel
theorem dL_same_572 : decode cL_same 572 = .ok (.iconst 2, 1) := by decide +kernel
theorem dL_same_573 : decode cL_same 573 = .ok (.invokevirtual 94, 3) := by decide +kernel
theorem dL_same_576 : decode cL_same 576 = .ok (.iload 12, 2) := by decide +kernel
theorem dL_same_578 : decode cL_same 578 = .ok (.if_icmp .ne 25, 3) := by decide +kernel
theorem dL_same_581 : decode cL_same 581 = .ok (.aload_n 0, 1) := by decide +kernel
theorem dL_same_582 : decode cL_same 582 = .ok (.iload 10, 2) := by decide +kernel
theorem dL_same_584 : decode cL_same 584 = .ok (.iconst 3, 1) := by decide +kernel
theorem dL_same_585 : decode cL_same 585 = .ok (.invokevirtual 94, 3) := by decide +kernel
theorem dL_same_588 : decode cL_same 588 = .ok (.aload_n 3, 1) := by decide +kernel
theorem dL_same_589 : decode cL_same 589 = .ok (.iconst 3, 1) := by decide +kernel
theorem dL_same_590 : decode cL_same 590 = .ok (.iload 10, 2) := by decide +kernel
theorem dL_same_592 : decode cL_same 592 = .ok (.imul, 1) := by decide +kernel
theorem dL_same_593 : decode cL_same 593 = .ok (.iconst 2, 1) := by decide +kernel
theorem dL_same_594 : decode cL_same 594 = .ok (.iadd, 1) := by decide +kernel
theorem dL_same_595 : decode cL_same 595 = .ok (.iaload, 1) := by decide +kernel
theorem dL_same_596 : decode cL_same 596 = .ok (.if_icmp .ne 7, 3) := by decide +kernel
theorem dL_same_599 : decode cL_same 599 = .ok (.iconst 1, 1) := by decide +kernel
theorem dL_same_600 : decode cL_same 600 = .ok (.goto 4, 3) := by decide +kernel
theorem dL_same_603 : decode cL_same 603 = .ok (.iconst 0, 1) := by decide +kernel
theorem dL_same_604 : decode cL_same 604 = .ok (.istore 9, 2) := by decide +kernel
theorem dL_same_606 : decode cL_same 606 = .ok (.iinc 10 1, 3) := by decide +kernel
theorem dL_same_609 : decode cL_same 609 = .ok (.goto (-168), 3) := by decide +kernel
theorem dL_same_612 : decode cL_same 612 = .ok (.iload_n 1, 1) := by decide +kernel
theorem dL_same_613 : decode cL_same 613 = .ok (.iconst 2, 1) := by decide +kernel
theorem dL_same_614 : decode cL_same 614 = .ok (.ishr, 1) := by decide +kernel
theorem dL_same_615 : decode cL_same 615 = .ok (.sipush 256, 3) := by decide +kernel
theorem dL_same_618 : decode cL_same 618 = .ok (.invokestatic 51, 3) := by decide +kernel
theorem dL_same_621 : decode cL_same 621 = .ok (.istore 10, 2) := by decide +kernel
theorem dL_same_623 : decode cL_same 623 = .ok (.iload_n 1, 1) := by decide +kernel
theorem dL_same_624 : decode cL_same 624 = .ok (.bipush 6, 2) := by decide +kernel
theorem dL_same_626 : decode cL_same 626 = .ok (.ishr, 1) := by decide +kernel
theorem dL_same_627 : decode cL_same 627 = .ok (.sipush 256, 3) := by decide +kernel
theorem dL_same_630 : decode cL_same 630 = .ok (.invokestatic 51, 3) := by decide +kernel
theorem dL_same_633 : decode cL_same 633 = .ok (.istore 11, 2) := by decide +kernel
theorem dL_same_635 : decode cL_same 635 = .ok (.iload_n 1, 1) := by decide +kernel
theorem dL_same_636 : decode cL_same 636 = .ok (.bipush 9, 2) := by decide +kernel
theorem dL_same_638 : decode cL_same 638 = .ok (.ishr, 1) := by decide +kernel
theorem dL_same_639 : decode cL_same 639 = .ok (.sipush 256, 3) := by decide +kernel
theorem dL_same_642 : decode cL_same 642 = .ok (.invokestatic 51, 3) := by decide +kernel
theorem dL_same_645 : decode cL_same 645 = .ok (.istore 12, 2) := by decide +kernel
theorem dL_same_647 : decode cL_same 647 = .ok (.iload 9, 2) := by decide +kernel
theorem dL_same_649 : decode cL_same 649 = .ok (.ifCond .eq 31, 3) := by decide +kernel
theorem dL_same_652 : decode cL_same 652 = .ok (.aload_n 0, 1) := by decide +kernel
theorem dL_same_653 : decode cL_same 653 = .ok (.iload 10, 2) := by decide +kernel
theorem dL_same_655 : decode cL_same 655 = .ok (.iload 11, 2) := by decide +kernel
theorem dL_same_657 : decode cL_same 657 = .ok (.iload 12, 2) := by decide +kernel
theorem dL_same_659 : decode cL_same 659 = .ok (.invokevirtual 97, 3) := by decide +kernel
theorem dL_same_662 : decode cL_same 662 = .ok (.iload 10, 2) := by decide +kernel
theorem dL_same_664 : decode cL_same 664 = .ok (.iload 11, 2) := by decide +kernel
theorem dL_same_666 : decode cL_same 666 = .ok (.iload 12, 2) := by decide +kernel
theorem dL_same_668 : decode cL_same 668 = .ok (.aload_n 2, 1) := by decide +kernel
theorem dL_same_669 : decode cL_same 669 = .ok (.aload_n 3, 1) := by decide +kernel
theorem dL_same_670 : decode cL_same 670 = .ok (.invokestatic 100, 3) := by decide +kernel
theorem dL_same_673 : decode cL_same 673 = .ok (.if_icmp .ne 7, 3) := by decide +kernel
theorem dL_same_676 : decode cL_same 676 = .ok (.iconst 1, 1) := by decide +kernel
theorem dL_same_677 : decode cL_same 677 = .ok (.goto 4, 3) := by decide +kernel
theorem dL_same_680 : decode cL_same 680 = .ok (.iconst 0, 1) := by decide +kernel
theorem dL_same_681 : decode cL_same 681 = .ok (.ireturn, 1) := by decide +kernel
