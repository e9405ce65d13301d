theorem dL_mixes_0 : decode cL_mixes 0 = .ok (.iload_n 2, 1) := by decide +kernel
theorem dL_mixes_1 : decode cL_mixes 1 = .ok (.iconst 4, 1) := by decide +kernel
theorem dL_mixes_2 : decode cL_mixes 2 = .ok (.invokestatic 51, 3) := by decide +kernel
theorem dL_mixes_5 : decode cL_mixes 5 = .ok (.istore 9, 2) := by decide +kernel
theorem dL_mixes_7 : decode cL_mixes 7 = .ok (.iload_n 1, 1) := by decide +kernel
theorem dL_mixes_8 : decode cL_mixes 8 = .ok (.ifCond .ne 131, 3) := by decide +kernel
theorem dL_mixes_11 : decode cL_mixes 11 = .ok (.iload_n 2, 1) := by decide +kernel
theorem dL_mixes_12 : decode cL_mixes 12 = .ok (.iconst 2, 1) := by decide +kernel
theorem dL_mixes_13 : decode cL_mixes 13 = .ok (.ishr, 1) := by decide +kernel
theorem dL_mixes_14 : decode cL_mixes 14 = .ok (.bipush 6, 2) := by decide +kernel
theorem dL_mixes_16 : decode cL_mixes 16 = .ok (.invokestatic 51, 3) := by decide +kernel
theorem dL_mixes_19 : decode cL_mixes 19 = .ok (.istore 10, 2) := by decide +kernel
theorem dL_mixes_21 : decode cL_mixes 21 = .ok (.iconst 1, 1) := by decide +kernel
theorem dL_mixes_22 : decode cL_mixes 22 = .ok (.iload_n 2, 1) := by decide +kernel
theorem dL_mixes_23 : decode cL_mixes 23 = .ok (.iconst 5, 1) := by decide +kernel
theorem dL_mixes_24 : decode cL_mixes 24 = .ok (.ishr, 1) := by decide +kernel
theorem dL_mixes_25 : decode cL_mixes 25 = .ok (.bipush 60, 2) := by decide +kernel
theorem dL_mixes_27 : decode cL_mixes 27 = .ok (.invokestatic 51, 3) := by decide +kernel
theorem dL_mixes_30 : decode cL_mixes 30 = .ok (.iadd, 1) := by decide +kernel
theorem dL_mixes_31 : decode cL_mixes 31 = .ok (.istore 11, 2) := by decide +kernel
theorem dL_mixes_33 : decode cL_mixes 33 = .ok (.aload_n 3, 1) := by decide +kernel
theorem dL_mixes_34 : decode cL_mixes 34 = .ok (.iconst 3, 1) := by decide +kernel
theorem dL_mixes_35 : decode cL_mixes 35 = .ok (.iload 10, 2) := by decide +kernel
theorem dL_mixes_37 : decode cL_mixes 37 = .ok (.imul, 1) := by decide +kernel
theorem dL_mixes_38 : decode cL_mixes 38 = .ok (.iconst 1, 1) := by decide +kernel
theorem dL_mixes_39 : decode cL_mixes 39 = .ok (.iadd, 1) := by decide +kernel
theorem dL_mixes_40 : decode cL_mixes 40 = .ok (.iaload, 1) := by decide +kernel
theorem dL_mixes_41 : decode cL_mixes 41 = .ok (.iload 11, 2) := by decide +kernel
theorem dL_mixes_43 : decode cL_mixes 43 = .ok (.if_icmp .lt 7, 3) := by decide +kernel
theorem dL_mixes_46 : decode cL_mixes 46 = .ok (.iconst 1, 1) := by decide +kernel
theorem dL_mixes_47 : decode cL_mixes 47 = .ok (.goto 4, 3) := by decide +kernel
theorem dL_mixes_50 : decode cL_mixes 50 = .ok (.iconst 0, 1) := by decide +kernel
theorem dL_mixes_51 : decode cL_mixes 51 = .ok (.istore 12, 2) := by decide +kernel
theorem dL_mixes_53 : decode cL_mixes 53 = .ok (.aload_n 3, 1) := by decide +kernel
theorem dL_mixes_54 : decode cL_mixes 54 = .ok (.iconst 3, 1) := by decide +kernel
theorem dL_mixes_55 : decode cL_mixes 55 = .ok (.iload 10, 2) := by decide +kernel
theorem dL_mixes_57 : decode cL_mixes 57 = .ok (.imul, 1) := by decide +kernel
theorem dL_mixes_58 : decode cL_mixes 58 = .ok (.iconst 1, 1) := by decide +kernel
theorem dL_mixes_59 : decode cL_mixes 59 = .ok (.iadd, 1) := by decide +kernel
theorem dL_mixes_60 : decode cL_mixes 60 = .ok (.dup2, 1) := by decide +kernel
theorem dL_mixes_61 : decode cL_mixes 61 = .ok (.iaload, 1) := by decide +kernel
theorem dL_mixes_62 : decode cL_mixes 62 = .ok (.iload 12, 2) := by decide +kernel
theorem dL_mixes_64 : decode cL_mixes 64 = .ok (.ifCond .eq 8, 3) := by decide +kernel
theorem dL_mixes_67 : decode cL_mixes 67 = .ok (.iload 11, 2) := by decide +kernel
theorem dL_mixes_69 : decode cL_mixes 69 = .ok (.goto 4, 3) := by decide +kernel
theorem dL_mixes_72 : decode cL_mixes 72 = .ok (.iconst 0, 1) := by decide +kernel
theorem dL_mixes_73 : decode cL_mixes 73 = .ok (.isub, 1) := by decide +kernel
theorem dL_mixes_74 : decode cL_mixes 74 = .ok (.iastore, 1) := by decide +kernel
theorem dL_mixes_75 : decode cL_mixes 75 = .ok (.aload 4, 2) := by decide +kernel
theorem dL_mixes_77 : decode cL_mixes 77 = .ok (.bipush 6, 2) := by decide +kernel
theorem dL_mixes_79 : decode cL_mixes 79 = .ok (.iload 9, 2) := by decide +kernel
theorem dL_mixes_81 : decode cL_mixes 81 = .ok (.imul, 1) := by decide +kernel
theorem dL_mixes_82 : decode cL_mixes 82 = .ok (.iload 10, 2) := by decide +kernel
theorem dL_mixes_84 : decode cL_mixes 84 = .ok (.iadd, 1) := by decide +kernel
theorem dL_mixes_85 : decode cL_mixes 85 = .ok (.dup2, 1) := by decide +kernel
theorem dL_mixes_86 : decode cL_mixes 86 = .ok (.iaload, 1) := by decide +kernel
theorem dL_mixes_87 : decode cL_mixes 87 = .ok (.iload 12, 2) := by decide +kernel
theorem dL_mixes_89 : decode cL_mixes 89 = .ok (.ifCond .eq 8, 3) := by decide +kernel
theorem dL_mixes_92 : decode cL_mixes 92 = .ok (.iload 11, 2) := by decide +kernel
theorem dL_mixes_94 : decode cL_mixes 94 = .ok (.goto 4, 3) := by decide +kernel
theorem dL_mixes_97 : decode cL_mixes 97 = .ok (.iconst 0, 1) := by decide +kernel
theorem dL_mixes_98 : decode cL_mixes 98 = .ok (.iadd, 1) := by decide +kernel
theorem dL_mixes_99 : decode cL_mixes 99 = .ok (.iastore, 1) := by decide +kernel
theorem dL_mixes_100 : decode cL_mixes 100 = .ok (.aload_n 0, 1) := by decide +kernel
theorem dL_mixes_101 : decode cL_mixes 101 = .ok (.iconst 0, 1) := by decide +kernel
theorem dL_mixes_102 : decode cL_mixes 102 = .ok (.iload 9, 2) := by decide +kernel
theorem dL_mixes_104 : decode cL_mixes 104 = .ok (.iload 10, 2) := by decide +kernel
theorem dL_mixes_106 : decode cL_mixes 106 = .ok (.iload 11, 2) := by decide +kernel
theorem dL_mixes_108 : decode cL_mixes 108 = .ok (.invokestatic 54, 3) := by decide +kernel
theorem dL_mixes_111 : decode cL_mixes 111 = .ok (.iload 12, 2) := by decide +kernel
theorem dL_mixes_113 : decode cL_mixes 113 = .ok (.ifCond .eq 14, 3) := by decide +kernel
theorem dL_mixes_116 : decode cL_mixes 116 = .ok (.aload_n 3, 1) := by decide +kernel
theorem dL_mixes_117 : decode cL_mixes 117 = .ok (.iconst 3, 1) := by decide +kernel
theorem dL_mixes_118 : decode cL_mixes 118 = .ok (.iload 10, 2) := by decide +kernel
theorem dL_mixes_120 : decode cL_mixes 120 = .ok (.imul, 1) := by decide +kernel
theorem dL_mixes_121 : decode cL_mixes 121 = .ok (.iconst 1, 1) := by decide +kernel
theorem dL_mixes_122 : decode cL_mixes 122 = .ok (.iadd, 1) := by decide +kernel
theorem dL_mixes_123 : decode cL_mixes 123 = .ok (.iaload, 1) := by decide +kernel
theorem dL_mixes_124 : decode cL_mixes 124 = .ok (.goto 6, 3) := by decide +kernel
theorem dL_mixes_127 : decode cL_mixes 127 = .ok (.sipush (-1003), 3) := by decide +kernel
theorem dL_mixes_130 : decode cL_mixes 130 = .ok (.if_icmp .ne 7, 3) := by decide +kernel
theorem dL_mixes_133 : decode cL_mixes 133 = .ok (.iconst 1, 1) := by decide +kernel
theorem dL_mixes_134 : decode cL_mixes 134 = .ok (.goto 4, 3) := by decide +kernel
theorem dL_mixes_137 : decode cL_mixes 137 = .ok (.iconst 0, 1) := by decide +kernel
theorem dL_mixes_138 : decode cL_mixes 138 = .ok (.ireturn, 1) := by decide +kernel
theorem dL_mixes_139 : decode cL_mixes 139 = .ok (.iload_n 1, 1) := by decide +kernel
theorem dL_mixes_140 : decode cL_mixes 140 = .ok (.iconst 1, 1) := by decide +kernel
theorem dL_mixes_141 : decode cL_mixes 141 = .ok (.if_icmp .ne 139, 3) := by decide +kernel
theorem dL_mixes_144 : decode cL_mixes 144 = .ok (.iload 9, 2) := by decide +kernel
theorem dL_mixes_146 : decode cL_mixes 146 = .ok (.iconst 1, 1) := by decide +kernel
theorem dL_mixes_147 : decode cL_mixes 147 = .ok (.iadd, 1) := by decide +kernel
theorem dL_mixes_148 : decode cL_mixes 148 = .ok (.iload_n 2, 1) := by decide +kernel
theorem dL_mixes_149 : decode cL_mixes 149 = .ok (.iconst 3, 1) := by decide +kernel
theorem dL_mixes_150 : decode cL_mixes 150 = .ok (.ishr, 1) := by decide +kernel
theorem dL_mixes_151 : decode cL_mixes 151 = .ok (.iconst 3, 1) := by decide +kernel
theorem dL_mixes_152 : decode cL_mixes 152 = .ok (.invokestatic 51, 3) := by decide +kernel
theorem dL_mixes_155 : decode cL_mixes 155 = .ok (.iadd, 1) := by decide +kernel
theorem dL_mixes_156 : decode cL_mixes 156 = .ok (.iconst 4, 1) := by decide +kernel
theorem dL_mixes_157 : decode cL_mixes 157 = .ok (.irem, 1) := by decide +kernel
theorem dL_mixes_158 : decode cL_mixes 158 = .ok (.istore 10, 2) := by decide +kernel
theorem dL_mixes_160 : decode cL_mixes 160 = .ok (.iconst 1, 1) := by decide +kernel
theorem dL_mixes_161 : decode cL_mixes 161 = .ok (.iload_n 2, 1) := by decide +kernel
theorem dL_mixes_162 : decode cL_mixes 162 = .ok (.iconst 5, 1) := by decide +kernel
theorem dL_mixes_163 : decode cL_mixes 163 = .ok (.ishr, 1) := by decide +kernel
theorem dL_mixes_164 : decode cL_mixes 164 = .ok (.bipush 50, 2) := by decide +kernel
theorem dL_mixes_166 : decode cL_mixes 166 = .ok (.invokestatic 51, 3) := by decide +kernel
theorem dL_mixes_169 : decode cL_mixes 169 = .ok (.iadd, 1) := by decide +kernel
theorem dL_mixes_170 : decode cL_mixes 170 = .ok (.istore 11, 2) := by decide +kernel
theorem dL_mixes_172 : decode cL_mixes 172 = .ok (.iload 9, 2) := by decide +kernel
theorem dL_mixes_174 : decode cL_mixes 174 = .ok (.aload 4, 2) := by decide +kernel
theorem dL_mixes_176 : decode cL_mixes 176 = .ok (.invokestatic 34, 3) := by decide +kernel
theorem dL_mixes_179 : decode cL_mixes 179 = .ok (.iload 11, 2) := by decide +kernel
theorem dL_mixes_181 : decode cL_mixes 181 = .ok (.if_icmp .lt 7, 3) := by decide +kernel
theorem dL_mixes_184 : decode cL_mixes 184 = .ok (.iconst 1, 1) := by decide +kernel
theorem dL_mixes_185 : decode cL_mixes 185 = .ok (.goto 4, 3) := by decide +kernel
theorem dL_mixes_188 : decode cL_mixes 188 = .ok (.iconst 0, 1) := by decide +kernel
theorem dL_mixes_189 : decode cL_mixes 189 = .ok (.istore 12, 2) := by decide +kernel
theorem dL_mixes_191 : decode cL_mixes 191 = .ok (.iload 12, 2) := by decide +kernel
theorem dL_mixes_193 : decode cL_mixes 193 = .ok (.ifCond .eq 49, 3) := by decide +kernel
theorem dL_mixes_196 : decode cL_mixes 196 = .ok (.iload 9, 2) := by decide +kernel
theorem dL_mixes_198 : decode cL_mixes 198 = .ok (.iload 11, 2) := by decide +kernel
theorem dL_mixes_200 : decode cL_mixes 200 = .ok (.aload 4, 2) := by decide +kernel
theorem dL_mixes_202 : decode cL_mixes 202 = .ok (.aload 8, 2) := by decide +kernel
theorem dL_mixes_204 : decode cL_mixes 204 = .ok (.invokestatic 58, 3) := by decide +kernel
theorem dL_mixes_207 : decode cL_mixes 207 = .ok (.iconst 0, 1) := by decide +kernel
theorem dL_mixes_208 : decode cL_mixes 208 = .ok (.istore 13, 2) := by decide +kernel
theorem dL_mixes_210 : decode cL_mixes 210 = .ok (.iload 13, 2) := by decide +kernel
theorem dL_mixes_212 : decode cL_mixes 212 = .ok (.bipush 6, 2) := by decide +kernel
theorem dL_mixes_214 : decode cL_mixes 214 = .ok (.if_icmp .ge 28, 3) := by decide +kernel
theorem dL_mixes_217 : decode cL_mixes 217 = .ok (.aload 4, 2) := by decide +kernel
theorem dL_mixes_219 : decode cL_mixes 219 = .ok (.bipush 6, 2) := by decide +kernel
theorem dL_mixes_221 : decode cL_mixes 221 = .ok (.iload 10, 2) := by decide +kernel
theorem dL_mixes_223 : decode cL_mixes 223 = .ok (.imul, 1) := by decide +kernel
theorem dL_mixes_224 : decode cL_mixes 224 = .ok (.iload 13, 2) := by decide +kernel
theorem dL_mixes_226 : decode cL_mixes 226 = .ok (.iadd, 1) := by decide +kernel
theorem dL_mixes_227 : decode cL_mixes 227 = .ok (.dup2, 1) := by decide +kernel
theorem dL_mixes_228 : decode cL_mixes 228 = .ok (.iaload, 1) := by decide +kernel
theorem dL_mixes_229 : decode cL_mixes 229 = .ok (.aload 8, 2) := by decide +kernel
theorem dL_mixes_231 : decode cL_mixes 231 = .ok (.iload 13, 2) := by decide +kernel
theorem dL_mixes_233 : decode cL_mixes 233 = .ok (.iaload, 1) := by decide +kernel
theorem dL_mixes_234 : decode cL_mixes 234 = .ok (.iadd, 1) := by decide +kernel
theorem dL_mixes_235 : decode cL_mixes 235 = .ok (.iastore, 1) := by decide +kernel
theorem dL_mixes_236 : decode cL_mixes 236 = .ok (.iinc 13 1, 3) := by decide +kernel
theorem dL_mixes_239 : decode cL_mixes 239 = .ok (.goto (-29), 3) := by decide +kernel
theorem dL_mixes_242 : decode cL_mixes 242 = .ok (.aload_n 0, 1) := by decide +kernel
theorem dL_mixes_243 : decode cL_mixes 243 = .ok (.iconst 1, 1) := by decide +kernel
theorem dL_mixes_244 : decode cL_mixes 244 = .ok (.iload 9, 2) := by decide +kernel
theorem dL_mixes_246 : decode cL_mixes 246 = .ok (.iload 10, 2) := by decide +kernel
theorem dL_mixes_248 : decode cL_mixes 248 = .ok (.iload 11, 2) := by decide +kernel
theorem dL_mixes_250 : decode cL_mixes 250 = .ok (.invokestatic 54, 3) := by decide +kernel
theorem dL_mixes_253 : decode cL_mixes 253 = .ok (.iload 12, 2) := by decide +kernel
theorem dL_mixes_255 : decode cL_mixes 255 = .ok (.ifCond .eq 13, 3) := by decide +kernel
theorem dL_mixes_258 : decode cL_mixes 258 = .ok (.iload 10, 2) := by decide +kernel
theorem dL_mixes_260 : decode cL_mixes 260 = .ok (.aload 4, 2) := by decide +kernel
theorem dL_mixes_262 : decode cL_mixes 262 = .ok (.invokestatic 34, 3) := by decide +kernel
theorem dL_mixes_265 : decode cL_mixes 265 = .ok (.goto 6, 3) := by decide +kernel
theorem dL_mixes_268 : decode cL_mixes 268 = .ok (.sipush (-1003), 3) := by decide +kernel
theorem dL_mixes_271 : decode cL_mixes 271 = .ok (.if_icmp .ne 7, 3) := by decide +kernel
theorem dL_mixes_274 : decode cL_mixes 274 = .ok (.iconst 1, 1) := by decide +kernel
theorem dL_mixes_275 : decode cL_mixes 275 = .ok (.goto 4, 3) := by decide +kernel
theorem dL_mixes_278 : decode cL_mixes 278 = .ok (.iconst 0, 1) := by decide +kernel
theorem dL_mixes_279 : decode cL_mixes 279 = .ok (.ireturn, 1) := by decide +kernel
theorem dL_mixes_280 : decode cL_mixes 280 = .ok (.iload_n 1, 1) := by decide +kernel
theorem dL_mixes_281 : decode cL_mixes 281 = .ok (.iconst 2, 1) := by decide +kernel
theorem dL_mixes_282 : decode cL_mixes 282 = .ok (.if_icmp .ne 79, 3) := by decide +kernel
theorem dL_mixes_285 : decode cL_mixes 285 = .ok (.iload 9, 2) := by decide +kernel
theorem dL_mixes_287 : decode cL_mixes 287 = .ok (.aload 4, 2) := by decide +kernel
theorem dL_mixes_289 : decode cL_mixes 289 = .ok (.invokestatic 34, 3) := by decide +kernel
theorem dL_mixes_292 : decode cL_mixes 292 = .ok (.istore 10, 2) := by decide +kernel
theorem dL_mixes_294 : decode cL_mixes 294 = .ok (.iconst 0, 1) := by decide +kernel
theorem dL_mixes_295 : decode cL_mixes 295 = .ok (.istore 11, 2) := by decide +kernel
theorem dL_mixes_297 : decode cL_mixes 297 = .ok (.iload 11, 2) := by decide +kernel
theorem dL_mixes_299 : decode cL_mixes 299 = .ok (.bipush 6, 2) := by decide +kernel
theorem dL_mixes_301 : decode cL_mixes 301 = .ok (.if_icmp .ge 43, 3) := by decide +kernel
theorem dL_mixes_304 : decode cL_mixes 304 = .ok (.aload_n 3, 1) := by decide +kernel
theorem dL_mixes_305 : decode cL_mixes 305 = .ok (.iconst 3, 1) := by decide +kernel
theorem dL_mixes_306 : decode cL_mixes 306 = .ok (.iload 11, 2) := by decide +kernel
theorem dL_mixes_308 : decode cL_mixes 308 = .ok (.imul, 1) := by decide +kernel
theorem dL_mixes_309 : decode cL_mixes 309 = .ok (.iconst 2, 1) := by decide +kernel
theorem dL_mixes_310 : decode cL_mixes 310 = .ok (.iadd, 1) := by decide +kernel
theorem dL_mixes_311 : decode cL_mixes 311 = .ok (.dup2, 1) := by decide +kernel
theorem dL_mixes_312 : decode cL_mixes 312 = .ok (.iaload, 1) := by decide +kernel
theorem dL_mixes_313 : decode cL_mixes 313 = .ok (.aload 4, 2) := by decide +kernel
theorem dL_mixes_315 : decode cL_mixes 315 = .ok (.bipush 6, 2) := by decide +kernel
theorem dL_mixes_317 : decode cL_mixes 317 = .ok (.iload 9, 2) := by decide +kernel
theorem dL_mixes_319 : decode cL_mixes 319 = .ok (.imul, 1) := by decide +kernel
theorem dL_mixes_320 : decode cL_mixes 320 = .ok (.iload 11, 2) := by decide +kernel
theorem dL_mixes_322 : decode cL_mixes 322 = .ok (.iadd, 1) := by decide +kernel
theorem dL_mixes_323 : decode cL_mixes 323 = .ok (.iaload, 1) := by decide +kernel
theorem dL_mixes_324 : decode cL_mixes 324 = .ok (.iadd, 1) := by decide +kernel
theorem dL_mixes_325 : decode cL_mixes 325 = .ok (.iastore, 1) := by decide +kernel
theorem dL_mixes_326 : decode cL_mixes 326 = .ok (.aload 4, 2) := by decide +kernel
theorem dL_mixes_328 : decode cL_mixes 328 = .ok (.bipush 6, 2) := by decide +kernel
theorem dL_mixes_330 : decode cL_mixes 330 = .ok (.iload 9, 2) := by decide +kernel
theorem dL_mixes_332 : decode cL_mixes 332 = .ok (.imul, 1) := by decide +kernel
theorem dL_mixes_333 : decode cL_mixes 333 = .ok (.iload 11, 2) := by decide +kernel
theorem dL_mixes_335 : decode cL_mixes 335 = .ok (.iadd, 1) := by decide +kernel
theorem dL_mixes_336 : decode cL_mixes 336 = .ok (.iconst 0, 1) := by decide +kernel
theorem dL_mixes_337 : decode cL_mixes 337 = .ok (.iastore, 1) := by decide +kernel
theorem dL_mixes_338 : decode cL_mixes 338 = .ok (.iinc 11 1, 3) := by decide +kernel
theorem dL_mixes_341 : decode cL_mixes 341 = .ok (.goto (-44), 3) := by decide +kernel
theorem dL_mixes_344 : decode cL_mixes 344 = .ok (.aload_n 0, 1) := by decide +kernel
theorem dL_mixes_345 : decode cL_mixes 345 = .ok (.iload 9, 2) := by decide +kernel
theorem dL_mixes_347 : decode cL_mixes 347 = .ok (.invokevirtual 62, 3) := by decide +kernel
theorem dL_mixes_350 : decode cL_mixes 350 = .ok (.iload 10, 2) := by decide +kernel
theorem dL_mixes_352 : decode cL_mixes 352 = .ok (.if_icmp .ne 7, 3) := by decide +kernel
theorem dL_mixes_355 : decode cL_mixes 355 = .ok (.iconst 1, 1) := by decide +kernel
theorem dL_mixes_356 : decode cL_mixes 356 = .ok (.goto 4, 3) := by decide +kernel
theorem dL_mixes_359 : decode cL_mixes 359 = .ok (.iconst 0, 1) := by decide +kernel
theorem dL_mixes_360 : decode cL_mixes 360 = .ok (.ireturn, 1) := by decide +kernel
theorem dL_mixes_361 : decode cL_mixes 361 = .ok (.iload_n 2, 1) := by decide +kernel
theorem dL_mixes_362 : decode cL_mixes 362 = .ok (.iconst 3, 1) := by decide +kernel
theorem dL_mixes_363 : decode cL_mixes 363 = .ok (.ishr, 1) := by decide +kernel
theorem dL_mixes_364 : decode cL_mixes 364 = .ok (.iconst 4, 1) := by decide +kernel
theorem dL_mixes_365 : decode cL_mixes 365 = .ok (.invokestatic 51, 3) := by decide +kernel
theorem dL_mixes_368 : decode cL_mixes 368 = .ok (.istore 10, 2) := by decide +kernel
theorem dL_mixes_370 : decode cL_mixes 370 = .ok (.aload 7, 2) := by decide +kernel
theorem dL_mixes_372 : decode cL_mixes 372 = .ok (.bipush 7, 2) := by decide +kernel
theorem dL_mixes_374 : decode cL_mixes 374 = .ok (.iload 10, 2) := by decide +kernel
theorem dL_mixes_376 : decode cL_mixes 376 = .ok (.imul, 1) := by decide +kernel
theorem dL_mixes_377 : decode cL_mixes 377 = .ok (.iaload, 1) := by decide +kernel
