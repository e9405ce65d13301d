theorem dL_calls_0 : decode cL_calls 0 = .ok (.iload_n 1, 1) := by decide +kernel
theorem dL_calls_1 : decode cL_calls 1 = .ok (.ifCond .ne 14, 3) := by decide +kernel
theorem dL_calls_4 : decode cL_calls 4 = .ok (.aload_n 0, 1) := by decide +kernel
theorem dL_calls_5 : decode cL_calls 5 = .ok (.iload_n 2, 1) := by decide +kernel
theorem dL_calls_6 : decode cL_calls 6 = .ok (.iload_n 3, 1) := by decide +kernel
theorem dL_calls_7 : decode cL_calls 7 = .ok (.iload 4, 2) := by decide +kernel
theorem dL_calls_9 : decode cL_calls 9 = .ok (.invokevirtual 10, 3) := by decide +kernel
theorem dL_calls_12 : decode cL_calls 12 = .ok (.goto 71, 3) := by decide +kernel
theorem dL_calls_15 : decode cL_calls 15 = .ok (.iload_n 1, 1) := by decide +kernel
theorem dL_calls_16 : decode cL_calls 16 = .ok (.iconst 1, 1) := by decide +kernel
theorem dL_calls_17 : decode cL_calls 17 = .ok (.if_icmp .ne 14, 3) := by decide +kernel
theorem dL_calls_20 : decode cL_calls 20 = .ok (.aload_n 0, 1) := by decide +kernel
theorem dL_calls_21 : decode cL_calls 21 = .ok (.iload_n 2, 1) := by decide +kernel
theorem dL_calls_22 : decode cL_calls 22 = .ok (.iload_n 3, 1) := by decide +kernel
theorem dL_calls_23 : decode cL_calls 23 = .ok (.iload 4, 2) := by decide +kernel
theorem dL_calls_25 : decode cL_calls 25 = .ok (.invokevirtual 16, 3) := by decide +kernel
theorem dL_calls_28 : decode cL_calls 28 = .ok (.goto 55, 3) := by decide +kernel
theorem dL_calls_31 : decode cL_calls 31 = .ok (.iload_n 1, 1) := by decide +kernel
theorem dL_calls_32 : decode cL_calls 32 = .ok (.iconst 2, 1) := by decide +kernel
theorem dL_calls_33 : decode cL_calls 33 = .ok (.if_icmp .ne 14, 3) := by decide +kernel
theorem dL_calls_36 : decode cL_calls 36 = .ok (.aload_n 0, 1) := by decide +kernel
theorem dL_calls_37 : decode cL_calls 37 = .ok (.iload_n 2, 1) := by decide +kernel
theorem dL_calls_38 : decode cL_calls 38 = .ok (.iload_n 3, 1) := by decide +kernel
theorem dL_calls_39 : decode cL_calls 39 = .ok (.iload 4, 2) := by decide +kernel
theorem dL_calls_41 : decode cL_calls 41 = .ok (.invokevirtual 19, 3) := by decide +kernel
theorem dL_calls_44 : decode cL_calls 44 = .ok (.goto 39, 3) := by decide +kernel
theorem dL_calls_47 : decode cL_calls 47 = .ok (.iload_n 1, 1) := by decide +kernel
theorem dL_calls_48 : decode cL_calls 48 = .ok (.iconst 3, 1) := by decide +kernel
theorem dL_calls_49 : decode cL_calls 49 = .ok (.if_icmp .ne 12, 3) := by decide +kernel
theorem dL_calls_52 : decode cL_calls 52 = .ok (.aload_n 0, 1) := by decide +kernel
theorem dL_calls_53 : decode cL_calls 53 = .ok (.iload_n 2, 1) := by decide +kernel
theorem dL_calls_54 : decode cL_calls 54 = .ok (.iload_n 3, 1) := by decide +kernel
theorem dL_calls_55 : decode cL_calls 55 = .ok (.invokevirtual 22, 3) := by decide +kernel
theorem dL_calls_58 : decode cL_calls 58 = .ok (.goto 25, 3) := by decide +kernel
theorem dL_calls_61 : decode cL_calls 61 = .ok (.iload_n 1, 1) := by decide +kernel
theorem dL_calls_62 : decode cL_calls 62 = .ok (.iconst 4, 1) := by decide +kernel
theorem dL_calls_63 : decode cL_calls 63 = .ok (.if_icmp .ne 14, 3) := by decide +kernel
theorem dL_calls_66 : decode cL_calls 66 = .ok (.aload_n 0, 1) := by decide +kernel
theorem dL_calls_67 : decode cL_calls 67 = .ok (.iload_n 2, 1) := by decide +kernel
theorem dL_calls_68 : decode cL_calls 68 = .ok (.iload_n 3, 1) := by decide +kernel
theorem dL_calls_69 : decode cL_calls 69 = .ok (.iload 4, 2) := by decide +kernel
theorem dL_calls_71 : decode cL_calls 71 = .ok (.invokevirtual 26, 3) := by decide +kernel
theorem dL_calls_74 : decode cL_calls 74 = .ok (.goto 9, 3) := by decide +kernel
theorem dL_calls_77 : decode cL_calls 77 = .ok (.aload_n 0, 1) := by decide +kernel
theorem dL_calls_78 : decode cL_calls 78 = .ok (.iload_n 2, 1) := by decide +kernel
theorem dL_calls_79 : decode cL_calls 79 = .ok (.iload_n 3, 1) := by decide +kernel
theorem dL_calls_80 : decode cL_calls 80 = .ok (.invokevirtual 29, 3) := by decide +kernel
theorem dL_calls_83 : decode cL_calls 83 = .ok (.ireturn, 1) := by decide +kernel
theorem dL_calls_84 : decode cL_calls 84 = .ok (.astore 5, 2) := by decide +kernel
theorem dL_calls_86 : decode cL_calls 86 = .ok (.sipush (-1003), 3) := by decide +kernel
theorem dL_calls_89 : decode cL_calls 89 = .ok (.ireturn, 1) := by decide +kernel
theorem dL_trades_0 : decode cL_trades 0 = .ok (.iload_n 2, 1) := by decide +kernel
theorem dL_trades_1 : decode cL_trades 1 = .ok (.iconst 4, 1) := by decide +kernel
theorem dL_trades_2 : decode cL_trades 2 = .ok (.invokestatic 51, 3) := by decide +kernel
theorem dL_trades_5 : decode cL_trades 5 = .ok (.istore 8, 2) := by decide +kernel
theorem dL_trades_7 : decode cL_trades 7 = .ok (.aload 6, 2) := by decide +kernel
theorem dL_trades_9 : decode cL_trades 9 = .ok (.bipush 7, 2) := by decide +kernel
theorem dL_trades_11 : decode cL_trades 11 = .ok (.iload 8, 2) := by decide +kernel
theorem dL_trades_13 : decode cL_trades 13 = .ok (.imul, 1) := by decide +kernel
theorem dL_trades_14 : decode cL_trades 14 = .ok (.iconst 3, 1) := by decide +kernel
theorem dL_trades_15 : decode cL_trades 15 = .ok (.iadd, 1) := by decide +kernel
theorem dL_trades_16 : decode cL_trades 16 = .ok (.iaload, 1) := by decide +kernel
theorem dL_trades_17 : decode cL_trades 17 = .ok (.ifCond .ne 7, 3) := by decide +kernel
theorem dL_trades_20 : decode cL_trades 20 = .ok (.iconst 1, 1) := by decide +kernel
theorem dL_trades_21 : decode cL_trades 21 = .ok (.goto 4, 3) := by decide +kernel
theorem dL_trades_24 : decode cL_trades 24 = .ok (.iconst 0, 1) := by decide +kernel
theorem dL_trades_25 : decode cL_trades 25 = .ok (.istore 9, 2) := by decide +kernel
theorem dL_trades_27 : decode cL_trades 27 = .ok (.iload_n 1, 1) := by decide +kernel
theorem dL_trades_28 : decode cL_trades 28 = .ok (.ifCond .ne 150, 3) := by decide +kernel
theorem dL_trades_31 : decode cL_trades 31 = .ok (.iload_n 2, 1) := by decide +kernel
theorem dL_trades_32 : decode cL_trades 32 = .ok (.iconst 2, 1) := by decide +kernel
theorem dL_trades_33 : decode cL_trades 33 = .ok (.ishr, 1) := by decide +kernel
theorem dL_trades_34 : decode cL_trades 34 = .ok (.iconst 4, 1) := by decide +kernel
theorem dL_trades_35 : decode cL_trades 35 = .ok (.invokestatic 51, 3) := by decide +kernel
theorem dL_trades_38 : decode cL_trades 38 = .ok (.istore 10, 2) := by decide +kernel
theorem dL_trades_40 : decode cL_trades 40 = .ok (.iconst 1, 1) := by decide +kernel
theorem dL_trades_41 : decode cL_trades 41 = .ok (.iload_n 2, 1) := by decide +kernel
theorem dL_trades_42 : decode cL_trades 42 = .ok (.iconst 4, 1) := by decide +kernel
theorem dL_trades_43 : decode cL_trades 43 = .ok (.ishr, 1) := by decide +kernel
theorem dL_trades_44 : decode cL_trades 44 = .ok (.bipush 9, 2) := by decide +kernel
theorem dL_trades_46 : decode cL_trades 46 = .ok (.invokestatic 51, 3) := by decide +kernel
theorem dL_trades_49 : decode cL_trades 49 = .ok (.iadd, 1) := by decide +kernel
theorem dL_trades_50 : decode cL_trades 50 = .ok (.istore 11, 2) := by decide +kernel
theorem dL_trades_52 : decode cL_trades 52 = .ok (.iload 9, 2) := by decide +kernel
theorem dL_trades_54 : decode cL_trades 54 = .ok (.ifCond .eq 22, 3) := by decide +kernel
theorem dL_trades_57 : decode cL_trades 57 = .ok (.aload 6, 2) := by decide +kernel
theorem dL_trades_59 : decode cL_trades 59 = .ok (.bipush 7, 2) := by decide +kernel
theorem dL_trades_61 : decode cL_trades 61 = .ok (.iload 8, 2) := by decide +kernel
theorem dL_trades_63 : decode cL_trades 63 = .ok (.imul, 1) := by decide +kernel
theorem dL_trades_64 : decode cL_trades 64 = .ok (.iconst 1, 1) := by decide +kernel
theorem dL_trades_65 : decode cL_trades 65 = .ok (.iadd, 1) := by decide +kernel
theorem dL_trades_66 : decode cL_trades 66 = .ok (.iaload, 1) := by decide +kernel
theorem dL_trades_67 : decode cL_trades 67 = .ok (.bipush 10, 2) := by decide +kernel
theorem dL_trades_69 : decode cL_trades 69 = .ok (.if_icmp .ge 7, 3) := by decide +kernel
theorem dL_trades_72 : decode cL_trades 72 = .ok (.iconst 1, 1) := by decide +kernel
theorem dL_trades_73 : decode cL_trades 73 = .ok (.goto 4, 3) := by decide +kernel
theorem dL_trades_76 : decode cL_trades 76 = .ok (.iconst 0, 1) := by decide +kernel
theorem dL_trades_77 : decode cL_trades 77 = .ok (.istore 12, 2) := by decide +kernel
theorem dL_trades_79 : decode cL_trades 79 = .ok (.iload 12, 2) := by decide +kernel
theorem dL_trades_81 : decode cL_trades 81 = .ok (.ifCond .eq 56, 3) := by decide +kernel
theorem dL_trades_84 : decode cL_trades 84 = .ok (.aload 6, 2) := by decide +kernel
theorem dL_trades_86 : decode cL_trades 86 = .ok (.bipush 7, 2) := by decide +kernel
theorem dL_trades_88 : decode cL_trades 88 = .ok (.iload 8, 2) := by decide +kernel
theorem dL_trades_90 : decode cL_trades 90 = .ok (.imul, 1) := by decide +kernel
theorem dL_trades_91 : decode cL_trades 91 = .ok (.iconst 3, 1) := by decide +kernel
theorem dL_trades_92 : decode cL_trades 92 = .ok (.iadd, 1) := by decide +kernel
theorem dL_trades_93 : decode cL_trades 93 = .ok (.iload 10, 2) := by decide +kernel
theorem dL_trades_95 : decode cL_trades 95 = .ok (.iconst 1, 1) := by decide +kernel
theorem dL_trades_96 : decode cL_trades 96 = .ok (.iadd, 1) := by decide +kernel
theorem dL_trades_97 : decode cL_trades 97 = .ok (.iastore, 1) := by decide +kernel
theorem dL_trades_98 : decode cL_trades 98 = .ok (.aload 6, 2) := by decide +kernel
theorem dL_trades_100 : decode cL_trades 100 = .ok (.bipush 7, 2) := by decide +kernel
theorem dL_trades_102 : decode cL_trades 102 = .ok (.iload 8, 2) := by decide +kernel
theorem dL_trades_104 : decode cL_trades 104 = .ok (.imul, 1) := by decide +kernel
theorem dL_trades_105 : decode cL_trades 105 = .ok (.iconst 4, 1) := by decide +kernel
theorem dL_trades_106 : decode cL_trades 106 = .ok (.iadd, 1) := by decide +kernel
theorem dL_trades_107 : decode cL_trades 107 = .ok (.iload 11, 2) := by decide +kernel
theorem dL_trades_109 : decode cL_trades 109 = .ok (.iastore, 1) := by decide +kernel
theorem dL_trades_110 : decode cL_trades 110 = .ok (.aload 6, 2) := by decide +kernel
theorem dL_trades_112 : decode cL_trades 112 = .ok (.bipush 7, 2) := by decide +kernel
theorem dL_trades_114 : decode cL_trades 114 = .ok (.iload 8, 2) := by decide +kernel
theorem dL_trades_116 : decode cL_trades 116 = .ok (.imul, 1) := by decide +kernel
theorem dL_trades_117 : decode cL_trades 117 = .ok (.iconst 5, 1) := by decide +kernel
theorem dL_trades_118 : decode cL_trades 118 = .ok (.iadd, 1) := by decide +kernel
theorem dL_trades_119 : decode cL_trades 119 = .ok (.iconst 1, 1) := by decide +kernel
theorem dL_trades_120 : decode cL_trades 120 = .ok (.iload 8, 2) := by decide +kernel
theorem dL_trades_122 : decode cL_trades 122 = .ok (.aload_n 3, 1) := by decide +kernel
theorem dL_trades_123 : decode cL_trades 123 = .ok (.aload 4, 2) := by decide +kernel
theorem dL_trades_125 : decode cL_trades 125 = .ok (.aload 5, 2) := by decide +kernel
theorem dL_trades_127 : decode cL_trades 127 = .ok (.aload 6, 2) := by decide +kernel
theorem dL_trades_129 : decode cL_trades 129 = .ok (.invokestatic 67, 3) := by decide +kernel
theorem dL_trades_132 : decode cL_trades 132 = .ok (.bipush 100, 2) := by decide +kernel
theorem dL_trades_134 : decode cL_trades 134 = .ok (.idiv, 1) := by decide +kernel
theorem dL_trades_135 : decode cL_trades 135 = .ok (.iadd, 1) := by decide +kernel
theorem dL_trades_136 : decode cL_trades 136 = .ok (.iastore, 1) := by decide +kernel
theorem dL_trades_137 : decode cL_trades 137 = .ok (.aload_n 0, 1) := by decide +kernel
theorem dL_trades_138 : decode cL_trades 138 = .ok (.iconst 4, 1) := by decide +kernel
theorem dL_trades_139 : decode cL_trades 139 = .ok (.iload 8, 2) := by decide +kernel
theorem dL_trades_141 : decode cL_trades 141 = .ok (.iload 10, 2) := by decide +kernel
theorem dL_trades_143 : decode cL_trades 143 = .ok (.iload 11, 2) := by decide +kernel
theorem dL_trades_145 : decode cL_trades 145 = .ok (.invokestatic 54, 3) := by decide +kernel
theorem dL_trades_148 : decode cL_trades 148 = .ok (.iload 12, 2) := by decide +kernel
theorem dL_trades_150 : decode cL_trades 150 = .ok (.ifCond .eq 16, 3) := by decide +kernel
theorem dL_trades_153 : decode cL_trades 153 = .ok (.aload 6, 2) := by decide +kernel
theorem dL_trades_155 : decode cL_trades 155 = .ok (.bipush 7, 2) := by decide +kernel
theorem dL_trades_157 : decode cL_trades 157 = .ok (.iload 8, 2) := by decide +kernel
theorem dL_trades_159 : decode cL_trades 159 = .ok (.imul, 1) := by decide +kernel
theorem dL_trades_160 : decode cL_trades 160 = .ok (.iconst 5, 1) := by decide +kernel
theorem dL_trades_161 : decode cL_trades 161 = .ok (.iadd, 1) := by decide +kernel
theorem dL_trades_162 : decode cL_trades 162 = .ok (.iaload, 1) := by decide +kernel
theorem dL_trades_163 : decode cL_trades 163 = .ok (.goto 6, 3) := by decide +kernel
theorem dL_trades_166 : decode cL_trades 166 = .ok (.sipush (-1003), 3) := by decide +kernel
theorem dL_trades_169 : decode cL_trades 169 = .ok (.if_icmp .ne 7, 3) := by decide +kernel
theorem dL_trades_172 : decode cL_trades 172 = .ok (.iconst 1, 1) := by decide +kernel
theorem dL_trades_173 : decode cL_trades 173 = .ok (.goto 4, 3) := by decide +kernel
theorem dL_trades_176 : decode cL_trades 176 = .ok (.iconst 0, 1) := by decide +kernel
theorem dL_trades_177 : decode cL_trades 177 = .ok (.ireturn, 1) := by decide +kernel
theorem dL_trades_178 : decode cL_trades 178 = .ok (.iload_n 1, 1) := by decide +kernel
theorem dL_trades_179 : decode cL_trades 179 = .ok (.iconst 1, 1) := by decide +kernel
theorem dL_trades_180 : decode cL_trades 180 = .ok (.if_icmp .ne 111, 3) := by decide +kernel
theorem dL_trades_183 : decode cL_trades 183 = .ok (.iconst 1, 1) := by decide +kernel
theorem dL_trades_184 : decode cL_trades 184 = .ok (.iload_n 2, 1) := by decide +kernel
theorem dL_trades_185 : decode cL_trades 185 = .ok (.iconst 3, 1) := by decide +kernel
theorem dL_trades_186 : decode cL_trades 186 = .ok (.ishr, 1) := by decide +kernel
theorem dL_trades_187 : decode cL_trades 187 = .ok (.sipush 9000, 3) := by decide +kernel
theorem dL_trades_190 : decode cL_trades 190 = .ok (.invokestatic 51, 3) := by decide +kernel
theorem dL_trades_193 : decode cL_trades 193 = .ok (.iadd, 1) := by decide +kernel
theorem dL_trades_194 : decode cL_trades 194 = .ok (.istore 10, 2) := by decide +kernel
theorem dL_trades_196 : decode cL_trades 196 = .ok (.iload 9, 2) := by decide +kernel
theorem dL_trades_198 : decode cL_trades 198 = .ok (.ifCond .eq 18, 3) := by decide +kernel
theorem dL_trades_201 : decode cL_trades 201 = .ok (.aload 6, 2) := by decide +kernel
theorem dL_trades_203 : decode cL_trades 203 = .ok (.bipush 7, 2) := by decide +kernel
theorem dL_trades_205 : decode cL_trades 205 = .ok (.iload 8, 2) := by decide +kernel
theorem dL_trades_207 : decode cL_trades 207 = .ok (.imul, 1) := by decide +kernel
theorem dL_trades_208 : decode cL_trades 208 = .ok (.iaload, 1) := by decide +kernel
theorem dL_trades_209 : decode cL_trades 209 = .ok (.ifCond .le 7, 3) := by decide +kernel
theorem dL_trades_212 : decode cL_trades 212 = .ok (.iconst 1, 1) := by decide +kernel
theorem dL_trades_213 : decode cL_trades 213 = .ok (.goto 4, 3) := by decide +kernel
theorem dL_trades_216 : decode cL_trades 216 = .ok (.iconst 0, 1) := by decide +kernel
theorem dL_trades_217 : decode cL_trades 217 = .ok (.istore 11, 2) := by decide +kernel
theorem dL_trades_219 : decode cL_trades 219 = .ok (.aload 6, 2) := by decide +kernel
theorem dL_trades_221 : decode cL_trades 221 = .ok (.bipush 7, 2) := by decide +kernel
theorem dL_trades_223 : decode cL_trades 223 = .ok (.iload 8, 2) := by decide +kernel
theorem dL_trades_225 : decode cL_trades 225 = .ok (.imul, 1) := by decide +kernel
theorem dL_trades_226 : decode cL_trades 226 = .ok (.iconst 2, 1) := by decide +kernel
theorem dL_trades_227 : decode cL_trades 227 = .ok (.iadd, 1) := by decide +kernel
theorem dL_trades_228 : decode cL_trades 228 = .ok (.iload 11, 2) := by decide +kernel
theorem dL_trades_230 : decode cL_trades 230 = .ok (.ifCond .eq 8, 3) := by decide +kernel
theorem dL_trades_233 : decode cL_trades 233 = .ok (.iload 10, 2) := by decide +kernel
theorem dL_trades_235 : decode cL_trades 235 = .ok (.goto 13, 3) := by decide +kernel
theorem dL_trades_238 : decode cL_trades 238 = .ok (.aload 6, 2) := by decide +kernel
theorem dL_trades_240 : decode cL_trades 240 = .ok (.bipush 7, 2) := by decide +kernel
theorem dL_trades_242 : decode cL_trades 242 = .ok (.iload 8, 2) := by decide +kernel
theorem dL_trades_244 : decode cL_trades 244 = .ok (.imul, 1) := by decide +kernel
theorem dL_trades_245 : decode cL_trades 245 = .ok (.iconst 2, 1) := by decide +kernel
theorem dL_trades_246 : decode cL_trades 246 = .ok (.iadd, 1) := by decide +kernel
theorem dL_trades_247 : decode cL_trades 247 = .ok (.iaload, 1) := by decide +kernel
theorem dL_trades_248 : decode cL_trades 248 = .ok (.iastore, 1) := by decide +kernel
theorem dL_trades_249 : decode cL_trades 249 = .ok (.aload_n 0, 1) := by decide +kernel
theorem dL_trades_250 : decode cL_trades 250 = .ok (.iconst 5, 1) := by decide +kernel
theorem dL_trades_251 : decode cL_trades 251 = .ok (.iload 8, 2) := by decide +kernel
theorem dL_trades_253 : decode cL_trades 253 = .ok (.iload 10, 2) := by decide +kernel
theorem dL_trades_255 : decode cL_trades 255 = .ok (.iconst 0, 1) := by decide +kernel
theorem dL_trades_256 : decode cL_trades 256 = .ok (.invokestatic 54, 3) := by decide +kernel
theorem dL_trades_259 : decode cL_trades 259 = .ok (.iload 11, 2) := by decide +kernel
theorem dL_trades_261 : decode cL_trades 261 = .ok (.ifCond .eq 18, 3) := by decide +kernel
theorem dL_trades_264 : decode cL_trades 264 = .ok (.iload 8, 2) := by decide +kernel
theorem dL_trades_266 : decode cL_trades 266 = .ok (.aload_n 3, 1) := by decide +kernel
theorem dL_trades_267 : decode cL_trades 267 = .ok (.aload 4, 2) := by decide +kernel
theorem dL_trades_269 : decode cL_trades 269 = .ok (.aload 5, 2) := by decide +kernel
theorem dL_trades_271 : decode cL_trades 271 = .ok (.aload 6, 2) := by decide +kernel
theorem dL_trades_273 : decode cL_trades 273 = .ok (.invokestatic 67, 3) := by decide +kernel
theorem dL_trades_276 : decode cL_trades 276 = .ok (.goto 6, 3) := by decide +kernel
theorem dL_trades_279 : decode cL_trades 279 = .ok (.sipush (-1003), 3) := by decide +kernel
theorem dL_trades_282 : decode cL_trades 282 = .ok (.if_icmp .ne 7, 3) := by decide +kernel
theorem dL_trades_285 : decode cL_trades 285 = .ok (.iconst 1, 1) := by decide +kernel
theorem dL_trades_286 : decode cL_trades 286 = .ok (.goto 4, 3) := by decide +kernel
theorem dL_trades_289 : decode cL_trades 289 = .ok (.iconst 0, 1) := by decide +kernel
theorem dL_trades_290 : decode cL_trades 290 = .ok (.ireturn, 1) := by decide +kernel
theorem dL_trades_291 : decode cL_trades 291 = .ok (.iload_n 2, 1) := by decide +kernel
theorem dL_trades_292 : decode cL_trades 292 = .ok (.iconst 4, 1) := by decide +kernel
theorem dL_trades_293 : decode cL_trades 293 = .ok (.invokestatic 51, 3) := by decide +kernel
theorem dL_trades_296 : decode cL_trades 296 = .ok (.istore 10, 2) := by decide +kernel
theorem dL_trades_298 : decode cL_trades 298 = .ok (.aload 7, 2) := by decide +kernel
theorem dL_trades_300 : decode cL_trades 300 = .ok (.iload 10, 2) := by decide +kernel
theorem dL_trades_302 : decode cL_trades 302 = .ok (.iaload, 1) := by decide +kernel
theorem dL_trades_303 : decode cL_trades 303 = .ok (.istore 11, 2) := by decide +kernel
theorem dL_trades_305 : decode cL_trades 305 = .ok (.aload 7, 2) := by decide +kernel
theorem dL_trades_307 : decode cL_trades 307 = .ok (.iload 10, 2) := by decide +kernel
theorem dL_trades_309 : decode cL_trades 309 = .ok (.bipush 30, 2) := by decide +kernel
theorem dL_trades_311 : decode cL_trades 311 = .ok (.iload_n 2, 1) := by decide +kernel
theorem dL_trades_312 : decode cL_trades 312 = .ok (.iconst 3, 1) := by decide +kernel
theorem dL_trades_313 : decode cL_trades 313 = .ok (.ishr, 1) := by decide +kernel
theorem dL_trades_314 : decode cL_trades 314 = .ok (.bipush 41, 2) := by decide +kernel
theorem dL_trades_316 : decode cL_trades 316 = .ok (.invokestatic 51, 3) := by decide +kernel
theorem dL_trades_319 : decode cL_trades 319 = .ok (.iadd, 1) := by decide +kernel
theorem dL_trades_320 : decode cL_trades 320 = .ok (.iastore, 1) := by decide +kernel
theorem dL_trades_321 : decode cL_trades 321 = .ok (.aload_n 0, 1) := by decide +kernel
theorem dL_trades_322 : decode cL_trades 322 = .ok (.iload 10, 2) := by decide +kernel
theorem dL_trades_324 : decode cL_trades 324 = .ok (.aload 7, 2) := by decide +kernel
theorem dL_trades_326 : decode cL_trades 326 = .ok (.iload 10, 2) := by decide +kernel
theorem dL_trades_328 : decode cL_trades 328 = .ok (.iaload, 1) := by decide +kernel
theorem dL_trades_329 : decode cL_trades 329 = .ok (.invokevirtual 70, 3) := by decide +kernel
theorem dL_trades_332 : decode cL_trades 332 = .ok (.iload 11, 2) := by decide +kernel
theorem dL_trades_334 : decode cL_trades 334 = .ok (.if_icmp .ne 7, 3) := by decide +kernel
theorem dL_trades_337 : decode cL_trades 337 = .ok (.iconst 1, 1) := by decide +kernel
theorem dL_trades_338 : decode cL_trades 338 = .ok (.goto 4, 3) := by decide +kernel
theorem dL_trades_341 : decode cL_trades 341 = .ok (.iconst 0, 1) := by decide +kernel
theorem dL_trades_342 : decode cL_trades 342 = .ok (.ireturn, 1) := by decide +kernel
theorem dL_day_0 : decode cL_day 0 = .ok (.iconst 0, 1) := by decide +kernel
theorem dL_day_1 : decode cL_day 1 = .ok (.istore_n 2, 1) := by decide +kernel
theorem dL_day_2 : decode cL_day 2 = .ok (.iload_n 2, 1) := by decide +kernel
theorem dL_day_3 : decode cL_day 3 = .ok (.iconst 4, 1) := by decide +kernel
theorem dL_day_4 : decode cL_day 4 = .ok (.if_icmp .ge 110, 3) := by decide +kernel
theorem dL_day_7 : decode cL_day 7 = .ok (.aload_n 0, 1) := by decide +kernel
theorem dL_day_8 : decode cL_day 8 = .ok (.bipush 7, 2) := by decide +kernel
theorem dL_day_10 : decode cL_day 10 = .ok (.iload_n 2, 1) := by decide +kernel
theorem dL_day_11 : decode cL_day 11 = .ok (.imul, 1) := by decide +kernel
theorem dL_day_12 : decode cL_day 12 = .ok (.iconst 3, 1) := by decide +kernel
theorem dL_day_13 : decode cL_day 13 = .ok (.iadd, 1) := by decide +kernel
theorem dL_day_14 : decode cL_day 14 = .ok (.iaload, 1) := by decide +kernel
theorem dL_day_15 : decode cL_day 15 = .ok (.iconst 1, 1) := by decide +kernel
theorem dL_day_16 : decode cL_day 16 = .ok (.isub, 1) := by decide +kernel
theorem dL_day_17 : decode cL_day 17 = .ok (.istore_n 3, 1) := by decide +kernel
theorem dL_day_18 : decode cL_day 18 = .ok (.iload_n 3, 1) := by decide +kernel
theorem dL_day_19 : decode cL_day 19 = .ok (.ifCond .lt 89, 3) := by decide +kernel
theorem dL_day_22 : decode cL_day 22 = .ok (.aload_n 1, 1) := by decide +kernel
theorem dL_day_23 : decode cL_day 23 = .ok (.iconst 4, 1) := by decide +kernel
theorem dL_day_24 : decode cL_day 24 = .ok (.iload_n 3, 1) := by decide +kernel
theorem dL_day_25 : decode cL_day 25 = .ok (.iadd, 1) := by decide +kernel
theorem dL_day_26 : decode cL_day 26 = .ok (.dup2, 1) := by decide +kernel
theorem dL_day_27 : decode cL_day 27 = .ok (.iaload, 1) := by decide +kernel
theorem dL_day_28 : decode cL_day 28 = .ok (.aload_n 0, 1) := by decide +kernel
theorem dL_day_29 : decode cL_day 29 = .ok (.bipush 7, 2) := by decide +kernel
theorem dL_day_31 : decode cL_day 31 = .ok (.iload_n 2, 1) := by decide +kernel
theorem dL_day_32 : decode cL_day 32 = .ok (.imul, 1) := by decide +kernel
theorem dL_day_33 : decode cL_day 33 = .ok (.iconst 5, 1) := by decide +kernel
theorem dL_day_34 : decode cL_day 34 = .ok (.iadd, 1) := by decide +kernel
theorem dL_day_35 : decode cL_day 35 = .ok (.iaload, 1) := by decide +kernel
theorem dL_day_36 : decode cL_day 36 = .ok (.iadd, 1) := by decide +kernel
theorem dL_day_37 : decode cL_day 37 = .ok (.iastore, 1) := by decide +kernel
theorem dL_day_38 : decode cL_day 38 = .ok (.aload_n 0, 1) := by decide +kernel
theorem dL_day_39 : decode cL_day 39 = .ok (.bipush 7, 2) := by decide +kernel
theorem dL_day_41 : decode cL_day 41 = .ok (.iload_n 2, 1) := by decide +kernel
theorem dL_day_42 : decode cL_day 42 = .ok (.imul, 1) := by decide +kernel
theorem dL_day_43 : decode cL_day 43 = .ok (.iconst 1, 1) := by decide +kernel
theorem dL_day_44 : decode cL_day 44 = .ok (.iadd, 1) := by decide +kernel
theorem dL_day_45 : decode cL_day 45 = .ok (.dup2, 1) := by decide +kernel
theorem dL_day_46 : decode cL_day 46 = .ok (.iaload, 1) := by decide +kernel
theorem dL_day_47 : decode cL_day 47 = .ok (.aload_n 1, 1) := by decide +kernel
theorem dL_day_48 : decode cL_day 48 = .ok (.iload_n 3, 1) := by decide +kernel
theorem dL_day_49 : decode cL_day 49 = .ok (.iaload, 1) := by decide +kernel
theorem dL_day_50 : decode cL_day 50 = .ok (.bipush 40, 2) := by decide +kernel
theorem dL_day_52 : decode cL_day 52 = .ok (.if_icmp .lt 11, 3) := by decide +kernel
theorem dL_day_55 : decode cL_day 55 = .ok (.aload_n 1, 1) := by decide +kernel
theorem dL_day_56 : decode cL_day 56 = .ok (.iload_n 3, 1) := by decide +kernel
theorem dL_day_57 : decode cL_day 57 = .ok (.iaload, 1) := by decide +kernel
theorem dL_day_58 : decode cL_day 58 = .ok (.bipush 60, 2) := by decide +kernel
theorem dL_day_60 : decode cL_day 60 = .ok (.if_icmp .le 7, 3) := by decide +kernel
theorem dL_day_63 : decode cL_day 63 = .ok (.iconst 1, 1) := by decide +kernel
theorem dL_day_64 : decode cL_day 64 = .ok (.goto 4, 3) := by decide +kernel
theorem dL_day_67 : decode cL_day 67 = .ok (.iconst 0, 1) := by decide +kernel
theorem dL_day_68 : decode cL_day 68 = .ok (.iadd, 1) := by decide +kernel
theorem dL_day_69 : decode cL_day 69 = .ok (.iastore, 1) := by decide +kernel
theorem dL_day_70 : decode cL_day 70 = .ok (.aload_n 0, 1) := by decide +kernel
theorem dL_day_71 : decode cL_day 71 = .ok (.bipush 7, 2) := by decide +kernel
theorem dL_day_73 : decode cL_day 73 = .ok (.iload_n 2, 1) := by decide +kernel
theorem dL_day_74 : decode cL_day 74 = .ok (.imul, 1) := by decide +kernel
theorem dL_day_75 : decode cL_day 75 = .ok (.iconst 4, 1) := by decide +kernel
theorem dL_day_76 : decode cL_day 76 = .ok (.iadd, 1) := by decide +kernel
theorem dL_day_77 : decode cL_day 77 = .ok (.dup2, 1) := by decide +kernel
theorem dL_day_78 : decode cL_day 78 = .ok (.iaload, 1) := by decide +kernel
theorem dL_day_79 : decode cL_day 79 = .ok (.iconst 1, 1) := by decide +kernel
theorem dL_day_80 : decode cL_day 80 = .ok (.isub, 1) := by decide +kernel
theorem dL_day_81 : decode cL_day 81 = .ok (.iastore, 1) := by decide +kernel
theorem dL_day_82 : decode cL_day 82 = .ok (.aload_n 0, 1) := by decide +kernel
theorem dL_day_83 : decode cL_day 83 = .ok (.bipush 7, 2) := by decide +kernel
theorem dL_day_85 : decode cL_day 85 = .ok (.iload_n 2, 1) := by decide +kernel
theorem dL_day_86 : decode cL_day 86 = .ok (.imul, 1) := by decide +kernel
theorem dL_day_87 : decode cL_day 87 = .ok (.iconst 3, 1) := by decide +kernel
theorem dL_day_88 : decode cL_day 88 = .ok (.iadd, 1) := by decide +kernel
theorem dL_day_89 : decode cL_day 89 = .ok (.aload_n 0, 1) := by decide +kernel
theorem dL_day_90 : decode cL_day 90 = .ok (.bipush 7, 2) := by decide +kernel
theorem dL_day_92 : decode cL_day 92 = .ok (.iload_n 2, 1) := by decide +kernel
theorem dL_day_93 : decode cL_day 93 = .ok (.imul, 1) := by decide +kernel
theorem dL_day_94 : decode cL_day 94 = .ok (.iconst 4, 1) := by decide +kernel
theorem dL_day_95 : decode cL_day 95 = .ok (.iadd, 1) := by decide +kernel
theorem dL_day_96 : decode cL_day 96 = .ok (.iaload, 1) := by decide +kernel
theorem dL_day_97 : decode cL_day 97 = .ok (.ifCond .le 9, 3) := by decide +kernel
theorem dL_day_100 : decode cL_day 100 = .ok (.iload_n 3, 1) := by decide +kernel
theorem dL_day_101 : decode cL_day 101 = .ok (.iconst 1, 1) := by decide +kernel
theorem dL_day_102 : decode cL_day 102 = .ok (.iadd, 1) := by decide +kernel
theorem dL_day_103 : decode cL_day 103 = .ok (.goto 4, 3) := by decide +kernel
theorem dL_day_106 : decode cL_day 106 = .ok (.iconst 0, 1) := by decide +kernel
theorem dL_day_107 : decode cL_day 107 = .ok (.iastore, 1) := by decide +kernel
theorem dL_day_108 : decode cL_day 108 = .ok (.iinc 2 1, 3) := by decide +kernel
theorem dL_day_111 : decode cL_day 111 = .ok (.goto (-109), 3) := by decide +kernel
theorem dL_day_114 : decode cL_day 114 = .ok (.return_, 1) := by decide +kernel
