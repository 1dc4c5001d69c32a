theorem dX12_plan_23 : decode cX12_plan 23 = .ok (.i2l, 1) := by decide +kernel
theorem dX12_plan_24 : decode cX12_plan 24 = .ok (.ldc2_w 275, 3) := by decide +kernel
theorem dX12_plan_27 : decode cX12_plan 27 = .ok (.invokestatic 268, 3) := by decide +kernel
theorem dX12_plan_30 : decode cX12_plan 30 = .ok (.ifCond .eq 28, 3) := by decide +kernel
theorem dX12_plan_33 : decode cX12_plan 33 = .ok (.iload_n 3, 1) := by decide +kernel
theorem dX12_plan_34 : decode cX12_plan 34 = .ok (.i2l, 1) := by decide +kernel
theorem dX12_plan_35 : decode cX12_plan 35 = .ok (.lconst 0, 1) := by decide +kernel
theorem dX12_plan_36 : decode cX12_plan 36 = .ok (.ldc2_w 277, 3) := by decide +kernel
theorem dX12_plan_39 : decode cX12_plan 39 = .ok (.invokestatic 268, 3) := by decide +kernel
theorem dX12_plan_42 : decode cX12_plan 42 = .ok (.ifCond .eq 16, 3) := by decide +kernel
theorem dX12_plan_45 : decode cX12_plan 45 = .ok (.iload 5, 2) := by decide +kernel
theorem dX12_plan_47 : decode cX12_plan 47 = .ok (.i2l, 1) := by decide +kernel
theorem dX12_plan_48 : decode cX12_plan 48 = .ok (.lconst 0, 1) := by decide +kernel
theorem dX12_plan_49 : decode cX12_plan 49 = .ok (.ldc2_w 279, 3) := by decide +kernel
theorem dX12_plan_52 : decode cX12_plan 52 = .ok (.invokestatic 268, 3) := by decide +kernel
theorem dX12_plan_55 : decode cX12_plan 55 = .ok (.ifCond .ne 6, 3) := by decide +kernel
theorem dX12_plan_58 : decode cX12_plan 58 = .ok (.bipush (-2), 2) := by decide +kernel
theorem dX12_plan_60 : decode cX12_plan 60 = .ok (.ireturn, 1) := by decide +kernel
theorem dX12_plan_61 : decode cX12_plan 61 = .ok (.iload_n 3, 1) := by decide +kernel
theorem dX12_plan_62 : decode cX12_plan 62 = .ok (.ifCond .ne 25, 3) := by decide +kernel
theorem dX12_plan_65 : decode cX12_plan 65 = .ok (.iload 4, 2) := by decide +kernel
theorem dX12_plan_67 : decode cX12_plan 67 = .ok (.i2l, 1) := by decide +kernel
theorem dX12_plan_68 : decode cX12_plan 68 = .ok (.bipush 8, 2) := by decide +kernel
theorem dX12_plan_70 : decode cX12_plan 70 = .ok (.iload_n 1, 1) := by decide +kernel
theorem dX12_plan_71 : decode cX12_plan 71 = .ok (.imul, 1) := by decide +kernel
theorem dX12_plan_72 : decode cX12_plan 72 = .ok (.i2l, 1) := by decide +kernel
theorem dX12_plan_73 : decode cX12_plan 73 = .ok (.bipush 8, 2) := by decide +kernel
theorem dX12_plan_75 : decode cX12_plan 75 = .ok (.iload_n 1, 1) := by decide +kernel
theorem dX12_plan_76 : decode cX12_plan 76 = .ok (.imul, 1) := by decide +kernel
theorem dX12_plan_77 : decode cX12_plan 77 = .ok (.bipush 7, 2) := by decide +kernel
theorem dX12_plan_79 : decode cX12_plan 79 = .ok (.iadd, 1) := by decide +kernel
theorem dX12_plan_80 : decode cX12_plan 80 = .ok (.i2l, 1) := by decide +kernel
theorem dX12_plan_81 : decode cX12_plan 81 = .ok (.invokestatic 268, 3) := by decide +kernel
theorem dX12_plan_84 : decode cX12_plan 84 = .ok (.goto 46, 3) := by decide +kernel
theorem dX12_plan_87 : decode cX12_plan 87 = .ok (.iload_n 3, 1) := by decide +kernel
theorem dX12_plan_88 : decode cX12_plan 88 = .ok (.iconst 3, 1) := by decide +kernel
theorem dX12_plan_89 : decode cX12_plan 89 = .ok (.if_icmp .ge 15, 3) := by decide +kernel
theorem dX12_plan_92 : decode cX12_plan 92 = .ok (.iload 4, 2) := by decide +kernel
theorem dX12_plan_94 : decode cX12_plan 94 = .ok (.i2l, 1) := by decide +kernel
theorem dX12_plan_95 : decode cX12_plan 95 = .ok (.lconst 0, 1) := by decide +kernel
theorem dX12_plan_96 : decode cX12_plan 96 = .ok (.iload_n 2, 1) := by decide +kernel
theorem dX12_plan_97 : decode cX12_plan 97 = .ok (.i2l, 1) := by decide +kernel
theorem dX12_plan_98 : decode cX12_plan 98 = .ok (.invokestatic 268, 3) := by decide +kernel
theorem dX12_plan_101 : decode cX12_plan 101 = .ok (.goto 29, 3) := by decide +kernel
theorem dX12_plan_104 : decode cX12_plan 104 = .ok (.iload_n 3, 1) := by decide +kernel
theorem dX12_plan_105 : decode cX12_plan 105 = .ok (.iconst 3, 1) := by decide +kernel
theorem dX12_plan_106 : decode cX12_plan 106 = .ok (.if_icmp .ne 16, 3) := by decide +kernel
theorem dX12_plan_109 : decode cX12_plan 109 = .ok (.iload 4, 2) := by decide +kernel
theorem dX12_plan_111 : decode cX12_plan 111 = .ok (.i2l, 1) := by decide +kernel
theorem dX12_plan_112 : decode cX12_plan 112 = .ok (.lconst 0, 1) := by decide +kernel
theorem dX12_plan_113 : decode cX12_plan 113 = .ok (.ldc2_w 281, 3) := by decide +kernel
theorem dX12_plan_116 : decode cX12_plan 116 = .ok (.invokestatic 268, 3) := by decide +kernel
theorem dX12_plan_119 : decode cX12_plan 119 = .ok (.goto 11, 3) := by decide +kernel
theorem dX12_plan_122 : decode cX12_plan 122 = .ok (.iload 4, 2) := by decide +kernel
theorem dX12_plan_124 : decode cX12_plan 124 = .ok (.i2l, 1) := by decide +kernel
theorem dX12_plan_125 : decode cX12_plan 125 = .ok (.lconst 0, 1) := by decide +kernel
theorem dX12_plan_126 : decode cX12_plan 126 = .ok (.lconst 1, 1) := by decide +kernel
theorem dX12_plan_127 : decode cX12_plan 127 = .ok (.invokestatic 268, 3) := by decide +kernel
theorem dX12_plan_130 : decode cX12_plan 130 = .ok (.istore 6, 2) := by decide +kernel
theorem dX12_plan_132 : decode cX12_plan 132 = .ok (.iload 6, 2) := by decide +kernel
theorem dX12_plan_134 : decode cX12_plan 134 = .ok (.ifCond .ne 6, 3) := by decide +kernel
theorem dX12_plan_137 : decode cX12_plan 137 = .ok (.bipush (-2), 2) := by decide +kernel
theorem dX12_plan_139 : decode cX12_plan 139 = .ok (.ireturn, 1) := by decide +kernel
theorem dX12_plan_140 : decode cX12_plan 140 = .ok (.iconst 0, 1) := by decide +kernel
theorem dX12_plan_141 : decode cX12_plan 141 = .ok (.istore 7, 2) := by decide +kernel
theorem dX12_plan_143 : decode cX12_plan 143 = .ok (.iload 7, 2) := by decide +kernel
theorem dX12_plan_145 : decode cX12_plan 145 = .ok (.aload_n 0, 1) := by decide +kernel
theorem dX12_plan_146 : decode cX12_plan 146 = .ok (.getfield 13, 3) := by decide +kernel
theorem dX12_plan_149 : decode cX12_plan 149 = .ok (.iload_n 1, 1) := by decide +kernel
theorem dX12_plan_150 : decode cX12_plan 150 = .ok (.iaload, 1) := by decide +kernel
theorem dX12_plan_151 : decode cX12_plan 151 = .ok (.if_icmp .ge 100, 3) := by decide +kernel
theorem dX12_plan_154 : decode cX12_plan 154 = .ok (.bipush 24, 2) := by decide +kernel
theorem dX12_plan_156 : decode cX12_plan 156 = .ok (.iload_n 1, 1) := by decide +kernel
theorem dX12_plan_157 : decode cX12_plan 157 = .ok (.imul, 1) := by decide +kernel
theorem dX12_plan_158 : decode cX12_plan 158 = .ok (.iload 7, 2) := by decide +kernel
theorem dX12_plan_160 : decode cX12_plan 160 = .ok (.iadd, 1) := by decide +kernel
theorem dX12_plan_161 : decode cX12_plan 161 = .ok (.istore 8, 2) := by decide +kernel
theorem dX12_plan_163 : decode cX12_plan 163 = .ok (.aload_n 0, 1) := by decide +kernel
theorem dX12_plan_164 : decode cX12_plan 164 = .ok (.getfield 19, 3) := by decide +kernel
theorem dX12_plan_167 : decode cX12_plan 167 = .ok (.iload 8, 2) := by decide +kernel
theorem dX12_plan_169 : decode cX12_plan 169 = .ok (.iaload, 1) := by decide +kernel
theorem dX12_plan_170 : decode cX12_plan 170 = .ok (.aload_n 0, 1) := by decide +kernel
theorem dX12_plan_171 : decode cX12_plan 171 = .ok (.getfield 272, 3) := by decide +kernel
theorem dX12_plan_174 : decode cX12_plan 174 = .ok (.if_icmp .ne 7, 3) := by decide +kernel
theorem dX12_plan_177 : decode cX12_plan 177 = .ok (.iconst 1, 1) := by decide +kernel
theorem dX12_plan_178 : decode cX12_plan 178 = .ok (.goto 4, 3) := by decide +kernel
theorem dX12_plan_181 : decode cX12_plan 181 = .ok (.iconst 0, 1) := by decide +kernel
theorem dX12_plan_182 : decode cX12_plan 182 = .ok (.istore 9, 2) := by decide +kernel
theorem dX12_plan_184 : decode cX12_plan 184 = .ok (.iconst 0, 1) := by decide +kernel
theorem dX12_plan_185 : decode cX12_plan 185 = .ok (.istore 10, 2) := by decide +kernel
theorem dX12_plan_187 : decode cX12_plan 187 = .ok (.iload 10, 2) := by decide +kernel
theorem dX12_plan_189 : decode cX12_plan 189 = .ok (.aload_n 0, 1) := by decide +kernel
theorem dX12_plan_190 : decode cX12_plan 190 = .ok (.getfield 272, 3) := by decide +kernel
theorem dX12_plan_193 : decode cX12_plan 193 = .ok (.if_icmp .ge 44, 3) := by decide +kernel
theorem dX12_plan_196 : decode cX12_plan 196 = .ok (.iload 9, 2) := by decide +kernel
theorem dX12_plan_198 : decode cX12_plan 198 = .ok (.ifCond .eq 39, 3) := by decide +kernel
theorem dX12_plan_201 : decode cX12_plan 201 = .ok (.aload_n 0, 1) := by decide +kernel
theorem dX12_plan_202 : decode cX12_plan 202 = .ok (.getfield 16, 3) := by decide +kernel
theorem dX12_plan_205 : decode cX12_plan 205 = .ok (.bipush 12, 2) := by decide +kernel
theorem dX12_plan_207 : decode cX12_plan 207 = .ok (.iload 8, 2) := by decide +kernel
theorem dX12_plan_209 : decode cX12_plan 209 = .ok (.imul, 1) := by decide +kernel
theorem dX12_plan_210 : decode cX12_plan 210 = .ok (.iload 10, 2) := by decide +kernel
theorem dX12_plan_212 : decode cX12_plan 212 = .ok (.iadd, 1) := by decide +kernel
theorem dX12_plan_213 : decode cX12_plan 213 = .ok (.iaload, 1) := by decide +kernel
theorem dX12_plan_214 : decode cX12_plan 214 = .ok (.aload_n 0, 1) := by decide +kernel
theorem dX12_plan_215 : decode cX12_plan 215 = .ok (.getfield 9, 3) := by decide +kernel
theorem dX12_plan_218 : decode cX12_plan 218 = .ok (.iload 10, 2) := by decide +kernel
theorem dX12_plan_220 : decode cX12_plan 220 = .ok (.iaload, 1) := by decide +kernel
theorem dX12_plan_221 : decode cX12_plan 221 = .ok (.if_icmp .ne 7, 3) := by decide +kernel
theorem dX12_plan_224 : decode cX12_plan 224 = .ok (.iconst 1, 1) := by decide +kernel
theorem dX12_plan_225 : decode cX12_plan 225 = .ok (.goto 4, 3) := by decide +kernel
theorem dX12_plan_228 : decode cX12_plan 228 = .ok (.iconst 0, 1) := by decide +kernel
theorem dX12_plan_229 : decode cX12_plan 229 = .ok (.istore 9, 2) := by decide +kernel
theorem dX12_plan_231 : decode cX12_plan 231 = .ok (.iinc 10 1, 3) := by decide +kernel
theorem dX12_plan_234 : decode cX12_plan 234 = .ok (.goto (-47), 3) := by decide +kernel
theorem dX12_plan_237 : decode cX12_plan 237 = .ok (.iload 9, 2) := by decide +kernel
theorem dX12_plan_239 : decode cX12_plan 239 = .ok (.ifCond .eq 6, 3) := by decide +kernel
theorem dX12_plan_242 : decode cX12_plan 242 = .ok (.bipush (-2), 2) := by decide +kernel
theorem dX12_plan_244 : decode cX12_plan 244 = .ok (.ireturn, 1) := by decide +kernel
theorem dX12_plan_245 : decode cX12_plan 245 = .ok (.iinc 7 1, 3) := by decide +kernel
theorem dX12_plan_248 : decode cX12_plan 248 = .ok (.goto (-105), 3) := by decide +kernel
theorem dX12_plan_251 : decode cX12_plan 251 = .ok (.aload_n 0, 1) := by decide +kernel
theorem dX12_plan_252 : decode cX12_plan 252 = .ok (.getfield 13, 3) := by decide +kernel
theorem dX12_plan_255 : decode cX12_plan 255 = .ok (.iload_n 1, 1) := by decide +kernel
theorem dX12_plan_256 : decode cX12_plan 256 = .ok (.iaload, 1) := by decide +kernel
theorem dX12_plan_257 : decode cX12_plan 257 = .ok (.bipush 24, 2) := by decide +kernel
theorem dX12_plan_259 : decode cX12_plan 259 = .ok (.if_icmp .ne 6, 3) := by decide +kernel
theorem dX12_plan_262 : decode cX12_plan 262 = .ok (.bipush (-3), 2) := by decide +kernel
theorem dX12_plan_264 : decode cX12_plan 264 = .ok (.ireturn, 1) := by decide +kernel
theorem dX12_plan_265 : decode cX12_plan 265 = .ok (.bipush 24, 2) := by decide +kernel
theorem dX12_plan_267 : decode cX12_plan 267 = .ok (.iload_n 1, 1) := by decide +kernel
theorem dX12_plan_268 : decode cX12_plan 268 = .ok (.imul, 1) := by decide +kernel
theorem dX12_plan_269 : decode cX12_plan 269 = .ok (.aload_n 0, 1) := by decide +kernel
theorem dX12_plan_270 : decode cX12_plan 270 = .ok (.getfield 13, 3) := by decide +kernel
theorem dX12_plan_273 : decode cX12_plan 273 = .ok (.iload_n 1, 1) := by decide +kernel
theorem dX12_plan_274 : decode cX12_plan 274 = .ok (.iaload, 1) := by decide +kernel
theorem dX12_plan_275 : decode cX12_plan 275 = .ok (.iadd, 1) := by decide +kernel
theorem dX12_plan_276 : decode cX12_plan 276 = .ok (.istore 7, 2) := by decide +kernel
theorem dX12_plan_278 : decode cX12_plan 278 = .ok (.iconst 0, 1) := by decide +kernel
theorem dX12_plan_279 : decode cX12_plan 279 = .ok (.istore 8, 2) := by decide +kernel
theorem dX12_plan_281 : decode cX12_plan 281 = .ok (.iload 8, 2) := by decide +kernel
theorem dX12_plan_283 : decode cX12_plan 283 = .ok (.aload_n 0, 1) := by decide +kernel
theorem dX12_plan_284 : decode cX12_plan 284 = .ok (.getfield 272, 3) := by decide +kernel
theorem dX12_plan_287 : decode cX12_plan 287 = .ok (.if_icmp .ge 29, 3) := by decide +kernel
theorem dX12_plan_290 : decode cX12_plan 290 = .ok (.aload_n 0, 1) := by decide +kernel
theorem dX12_plan_291 : decode cX12_plan 291 = .ok (.getfield 16, 3) := by decide +kernel
theorem dX12_plan_294 : decode cX12_plan 294 = .ok (.bipush 12, 2) := by decide +kernel
theorem dX12_plan_296 : decode cX12_plan 296 = .ok (.iload 7, 2) := by decide +kernel
theorem dX12_plan_298 : decode cX12_plan 298 = .ok (.imul, 1) := by decide +kernel
theorem dX12_plan_299 : decode cX12_plan 299 = .ok (.iload 8, 2) := by decide +kernel
theorem dX12_plan_301 : decode cX12_plan 301 = .ok (.iadd, 1) := by decide +kernel
theorem dX12_plan_302 : decode cX12_plan 302 = .ok (.aload_n 0, 1) := by decide +kernel
theorem dX12_plan_303 : decode cX12_plan 303 = .ok (.getfield 9, 3) := by decide +kernel
theorem dX12_plan_306 : decode cX12_plan 306 = .ok (.iload 8, 2) := by decide +kernel
theorem dX12_plan_308 : decode cX12_plan 308 = .ok (.iaload, 1) := by decide +kernel
theorem dX12_plan_309 : decode cX12_plan 309 = .ok (.iastore, 1) := by decide +kernel
theorem dX12_plan_310 : decode cX12_plan 310 = .ok (.iinc 8 1, 3) := by decide +kernel
theorem dX12_plan_313 : decode cX12_plan 313 = .ok (.goto (-32), 3) := by decide +kernel
theorem dX12_plan_316 : decode cX12_plan 316 = .ok (.aload_n 0, 1) := by decide +kernel
theorem dX12_plan_317 : decode cX12_plan 317 = .ok (.getfield 19, 3) := by decide +kernel
theorem dX12_plan_320 : decode cX12_plan 320 = .ok (.iload 7, 2) := by decide +kernel
theorem dX12_plan_322 : decode cX12_plan 322 = .ok (.aload_n 0, 1) := by decide +kernel
theorem dX12_plan_323 : decode cX12_plan 323 = .ok (.getfield 272, 3) := by decide +kernel
theorem dX12_plan_326 : decode cX12_plan 326 = .ok (.iastore, 1) := by decide +kernel
theorem dX12_plan_327 : decode cX12_plan 327 = .ok (.aload_n 0, 1) := by decide +kernel
theorem dX12_plan_328 : decode cX12_plan 328 = .ok (.getfield 22, 3) := by decide +kernel
theorem dX12_plan_331 : decode cX12_plan 331 = .ok (.iload 7, 2) := by decide +kernel
theorem dX12_plan_333 : decode cX12_plan 333 = .ok (.iload_n 2, 1) := by decide +kernel
theorem dX12_plan_334 : decode cX12_plan 334 = .ok (.iastore, 1) := by decide +kernel
theorem dX12_plan_335 : decode cX12_plan 335 = .ok (.aload_n 0, 1) := by decide +kernel
theorem dX12_plan_336 : decode cX12_plan 336 = .ok (.getfield 25, 3) := by decide +kernel
theorem dX12_plan_339 : decode cX12_plan 339 = .ok (.iload 7, 2) := by decide +kernel
theorem dX12_plan_341 : decode cX12_plan 341 = .ok (.iload_n 3, 1) := by decide +kernel
theorem dX12_plan_342 : decode cX12_plan 342 = .ok (.iastore, 1) := by decide +kernel
theorem dX12_plan_343 : decode cX12_plan 343 = .ok (.aload_n 0, 1) := by decide +kernel
theorem dX12_plan_344 : decode cX12_plan 344 = .ok (.getfield 28, 3) := by decide +kernel
theorem dX12_plan_347 : decode cX12_plan 347 = .ok (.iload 7, 2) := by decide +kernel
theorem dX12_plan_349 : decode cX12_plan 349 = .ok (.iload 4, 2) := by decide +kernel
theorem dX12_plan_351 : decode cX12_plan 351 = .ok (.iastore, 1) := by decide +kernel
theorem dX12_plan_352 : decode cX12_plan 352 = .ok (.aload_n 0, 1) := by decide +kernel
theorem dX12_plan_353 : decode cX12_plan 353 = .ok (.getfield 31, 3) := by decide +kernel
theorem dX12_plan_356 : decode cX12_plan 356 = .ok (.iload 7, 2) := by decide +kernel
theorem dX12_plan_358 : decode cX12_plan 358 = .ok (.iload 5, 2) := by decide +kernel
theorem dX12_plan_360 : decode cX12_plan 360 = .ok (.iastore, 1) := by decide +kernel
theorem dX12_plan_361 : decode cX12_plan 361 = .ok (.aload_n 0, 1) := by decide +kernel
theorem dX12_plan_362 : decode cX12_plan 362 = .ok (.iconst 0, 1) := by decide +kernel
theorem dX12_plan_363 : decode cX12_plan 363 = .ok (.putfield 272, 3) := by decide +kernel
theorem dX12_plan_366 : decode cX12_plan 366 = .ok (.aload_n 0, 1) := by decide +kernel
theorem dX12_plan_367 : decode cX12_plan 367 = .ok (.getfield 13, 3) := by decide +kernel
theorem dX12_plan_370 : decode cX12_plan 370 = .ok (.iload_n 1, 1) := by decide +kernel
theorem dX12_plan_371 : decode cX12_plan 371 = .ok (.dup2, 1) := by decide +kernel
theorem dX12_plan_372 : decode cX12_plan 372 = .ok (.iaload, 1) := by decide +kernel
theorem dX12_plan_373 : decode cX12_plan 373 = .ok (.dup_x2, 1) := by decide +kernel
theorem dX12_plan_374 : decode cX12_plan 374 = .ok (.iconst 1, 1) := by decide +kernel
theorem dX12_plan_375 : decode cX12_plan 375 = .ok (.iadd, 1) := by decide +kernel
theorem dX12_plan_376 : decode cX12_plan 376 = .ok (.iastore, 1) := by decide +kernel
theorem dX12_plan_377 : decode cX12_plan 377 = .ok (.ireturn, 1) := by decide +kernel
theorem dX12_analysis_0 : decode cX12_analysis 0 = .ok (.aload_n 0, 1) := by decide +kernel
theorem dX12_analysis_1 : decode cX12_analysis 1 = .ok (.getfield 101, 3) := by decide +kernel
theorem dX12_analysis_4 : decode cX12_analysis 4 = .ok (.iload_n 1, 1) := by decide +kernel
theorem dX12_analysis_5 : decode cX12_analysis 5 = .ok (.iaload, 1) := by decide +kernel
theorem dX12_analysis_6 : decode cX12_analysis 6 = .ok (.istore_n 2, 1) := by decide +kernel
theorem dX12_analysis_7 : decode cX12_analysis 7 = .ok (.aload_n 0, 1) := by decide +kernel
theorem dX12_analysis_8 : decode cX12_analysis 8 = .ok (.getfield 116, 3) := by decide +kernel
theorem dX12_analysis_11 : decode cX12_analysis 11 = .ok (.iload_n 1, 1) := by decide +kernel
theorem dX12_analysis_12 : decode cX12_analysis 12 = .ok (.iaload, 1) := by decide +kernel
theorem dX12_analysis_13 : decode cX12_analysis 13 = .ok (.istore_n 3, 1) := by decide +kernel
theorem dX12_analysis_14 : decode cX12_analysis 14 = .ok (.bipush (-2), 2) := by decide +kernel
theorem dX12_analysis_16 : decode cX12_analysis 16 = .ok (.istore 4, 2) := by decide +kernel
theorem dX12_analysis_18 : decode cX12_analysis 18 = .ok (.iconst 0, 1) := by decide +kernel
theorem dX12_analysis_19 : decode cX12_analysis 19 = .ok (.istore 5, 2) := by decide +kernel
theorem dX12_analysis_21 : decode cX12_analysis 21 = .ok (.iload 5, 2) := by decide +kernel
theorem dX12_analysis_23 : decode cX12_analysis 23 = .ok (.aload_n 0, 1) := by decide +kernel
theorem dX12_analysis_24 : decode cX12_analysis 24 = .ok (.getfield 13, 3) := by decide +kernel
theorem dX12_analysis_27 : decode cX12_analysis 27 = .ok (.iload_n 2, 1) := by decide +kernel
theorem dX12_analysis_28 : decode cX12_analysis 28 = .ok (.iaload, 1) := by decide +kernel
theorem dX12_analysis_29 : decode cX12_analysis 29 = .ok (.if_icmp .ge 135, 3) := by decide +kernel
theorem dX12_analysis_32 : decode cX12_analysis 32 = .ok (.bipush 24, 2) := by decide +kernel
theorem dX12_analysis_34 : decode cX12_analysis 34 = .ok (.iload_n 2, 1) := by decide +kernel
theorem dX12_analysis_35 : decode cX12_analysis 35 = .ok (.imul, 1) := by decide +kernel
theorem dX12_analysis_36 : decode cX12_analysis 36 = .ok (.iload 5, 2) := by decide +kernel
theorem dX12_analysis_38 : decode cX12_analysis 38 = .ok (.iadd, 1) := by decide +kernel
theorem dX12_analysis_39 : decode cX12_analysis 39 = .ok (.istore 6, 2) := by decide +kernel
theorem dX12_analysis_41 : decode cX12_analysis 41 = .ok (.iconst 1, 1) := by decide +kernel
theorem dX12_analysis_42 : decode cX12_analysis 42 = .ok (.istore 7, 2) := by decide +kernel
theorem dX12_analysis_44 : decode cX12_analysis 44 = .ok (.iconst 0, 1) := by decide +kernel
theorem dX12_analysis_45 : decode cX12_analysis 45 = .ok (.istore 8, 2) := by decide +kernel
theorem dX12_analysis_47 : decode cX12_analysis 47 = .ok (.iload 8, 2) := by decide +kernel
theorem dX12_analysis_49 : decode cX12_analysis 49 = .ok (.iload_n 3, 1) := by decide +kernel
theorem dX12_analysis_50 : decode cX12_analysis 50 = .ok (.if_icmp .ge 59, 3) := by decide +kernel
theorem dX12_analysis_53 : decode cX12_analysis 53 = .ok (.iload 8, 2) := by decide +kernel
theorem dX12_analysis_55 : decode cX12_analysis 55 = .ok (.aload_n 0, 1) := by decide +kernel
theorem dX12_analysis_56 : decode cX12_analysis 56 = .ok (.getfield 19, 3) := by decide +kernel
theorem dX12_analysis_59 : decode cX12_analysis 59 = .ok (.iload 6, 2) := by decide +kernel
theorem dX12_analysis_61 : decode cX12_analysis 61 = .ok (.iaload, 1) := by decide +kernel
theorem dX12_analysis_62 : decode cX12_analysis 62 = .ok (.if_icmp .ge 47, 3) := by decide +kernel
theorem dX12_analysis_65 : decode cX12_analysis 65 = .ok (.iload 7, 2) := by decide +kernel
theorem dX12_analysis_67 : decode cX12_analysis 67 = .ok (.aload_n 0, 1) := by decide +kernel
theorem dX12_analysis_68 : decode cX12_analysis 68 = .ok (.getfield 16, 3) := by decide +kernel
theorem dX12_analysis_71 : decode cX12_analysis 71 = .ok (.bipush 12, 2) := by decide +kernel
theorem dX12_analysis_73 : decode cX12_analysis 73 = .ok (.iload 6, 2) := by decide +kernel
theorem dX12_analysis_75 : decode cX12_analysis 75 = .ok (.imul, 1) := by decide +kernel
theorem dX12_analysis_76 : decode cX12_analysis 76 = .ok (.iload 8, 2) := by decide +kernel
theorem dX12_analysis_78 : decode cX12_analysis 78 = .ok (.iadd, 1) := by decide +kernel
theorem dX12_analysis_79 : decode cX12_analysis 79 = .ok (.iaload, 1) := by decide +kernel
theorem dX12_analysis_80 : decode cX12_analysis 80 = .ok (.aload_n 0, 1) := by decide +kernel
theorem dX12_analysis_81 : decode cX12_analysis 81 = .ok (.getfield 113, 3) := by decide +kernel
theorem dX12_analysis_84 : decode cX12_analysis 84 = .ok (.bipush 12, 2) := by decide +kernel
theorem dX12_analysis_86 : decode cX12_analysis 86 = .ok (.iload_n 1, 1) := by decide +kernel
theorem dX12_analysis_87 : decode cX12_analysis 87 = .ok (.imul, 1) := by decide +kernel
theorem dX12_analysis_88 : decode cX12_analysis 88 = .ok (.iload 8, 2) := by decide +kernel
theorem dX12_analysis_90 : decode cX12_analysis 90 = .ok (.iadd, 1) := by decide +kernel
theorem dX12_analysis_91 : decode cX12_analysis 91 = .ok (.iaload, 1) := by decide +kernel
theorem dX12_analysis_92 : decode cX12_analysis 92 = .ok (.if_icmp .ne 7, 3) := by decide +kernel
theorem dX12_analysis_95 : decode cX12_analysis 95 = .ok (.iconst 1, 1) := by decide +kernel
theorem dX12_analysis_96 : decode cX12_analysis 96 = .ok (.goto 4, 3) := by decide +kernel
theorem dX12_analysis_99 : decode cX12_analysis 99 = .ok (.iconst 0, 1) := by decide +kernel
theorem dX12_analysis_100 : decode cX12_analysis 100 = .ok (.iand, 1) := by decide +kernel
theorem dX12_analysis_101 : decode cX12_analysis 101 = .ok (.istore 7, 2) := by decide +kernel
theorem dX12_analysis_103 : decode cX12_analysis 103 = .ok (.iinc 8 1, 3) := by decide +kernel
theorem dX12_analysis_106 : decode cX12_analysis 106 = .ok (.goto (-59), 3) := by decide +kernel
theorem dX12_analysis_109 : decode cX12_analysis 109 = .ok (.iload 7, 2) := by decide +kernel
theorem dX12_analysis_111 : decode cX12_analysis 111 = .ok (.ifCond .ne 6, 3) := by decide +kernel
theorem dX12_analysis_114 : decode cX12_analysis 114 = .ok (.goto 44, 3) := by decide +kernel
theorem dX12_analysis_117 : decode cX12_analysis 117 = .ok (.aload_n 0, 1) := by decide +kernel
theorem dX12_analysis_118 : decode cX12_analysis 118 = .ok (.getfield 19, 3) := by decide +kernel
theorem dX12_analysis_121 : decode cX12_analysis 121 = .ok (.iload 6, 2) := by decide +kernel
theorem dX12_analysis_123 : decode cX12_analysis 123 = .ok (.iaload, 1) := by decide +kernel
theorem dX12_analysis_124 : decode cX12_analysis 124 = .ok (.iload_n 3, 1) := by decide +kernel
theorem dX12_analysis_125 : decode cX12_analysis 125 = .ok (.if_icmp .le 5, 3) := by decide +kernel
theorem dX12_analysis_128 : decode cX12_analysis 128 = .ok (.iconst (-1), 1) := by decide +kernel
theorem dX12_analysis_129 : decode cX12_analysis 129 = .ok (.ireturn, 1) := by decide +kernel
theorem dX12_analysis_130 : decode cX12_analysis 130 = .ok (.iload 4, 2) := by decide +kernel
theorem dX12_analysis_132 : decode cX12_analysis 132 = .ok (.bipush (-2), 2) := by decide +kernel
theorem dX12_analysis_134 : decode cX12_analysis 134 = .ok (.if_icmp .eq 20, 3) := by decide +kernel
theorem dX12_analysis_137 : decode cX12_analysis 137 = .ok (.aload_n 0, 1) := by decide +kernel
theorem dX12_analysis_138 : decode cX12_analysis 138 = .ok (.getfield 19, 3) := by decide +kernel
theorem dX12_analysis_141 : decode cX12_analysis 141 = .ok (.iload 6, 2) := by decide +kernel
theorem dX12_analysis_143 : decode cX12_analysis 143 = .ok (.iaload, 1) := by decide +kernel
theorem dX12_analysis_144 : decode cX12_analysis 144 = .ok (.aload_n 0, 1) := by decide +kernel
theorem dX12_analysis_145 : decode cX12_analysis 145 = .ok (.getfield 19, 3) := by decide +kernel
theorem dX12_analysis_148 : decode cX12_analysis 148 = .ok (.iload 4, 2) := by decide +kernel
theorem dX12_analysis_150 : decode cX12_analysis 150 = .ok (.iaload, 1) := by decide +kernel
theorem dX12_analysis_151 : decode cX12_analysis 151 = .ok (.if_icmp .le 7, 3) := by decide +kernel
theorem dX12_analysis_154 : decode cX12_analysis 154 = .ok (.iload 6, 2) := by decide +kernel
theorem dX12_analysis_156 : decode cX12_analysis 156 = .ok (.istore 4, 2) := by decide +kernel
theorem dX12_analysis_158 : decode cX12_analysis 158 = .ok (.iinc 5 1, 3) := by decide +kernel
theorem dX12_analysis_161 : decode cX12_analysis 161 = .ok (.goto (-140), 3) := by decide +kernel
theorem dX12_analysis_164 : decode cX12_analysis 164 = .ok (.iload 4, 2) := by decide +kernel
theorem dX12_analysis_166 : decode cX12_analysis 166 = .ok (.bipush (-2), 2) := by decide +kernel
theorem dX12_analysis_168 : decode cX12_analysis 168 = .ok (.if_icmp .ne 6, 3) := by decide +kernel
theorem dX12_analysis_171 : decode cX12_analysis 171 = .ok (.bipush (-2), 2) := by decide +kernel
theorem dX12_analysis_173 : decode cX12_analysis 173 = .ok (.ireturn, 1) := by decide +kernel
theorem dX12_analysis_174 : decode cX12_analysis 174 = .ok (.aload_n 0, 1) := by decide +kernel
theorem dX12_analysis_175 : decode cX12_analysis 175 = .ok (.getfield 22, 3) := by decide +kernel
theorem dX12_analysis_178 : decode cX12_analysis 178 = .ok (.iload 4, 2) := by decide +kernel
theorem dX12_analysis_180 : decode cX12_analysis 180 = .ok (.iaload, 1) := by decide +kernel
theorem dX12_analysis_181 : decode cX12_analysis 181 = .ok (.iload_n 3, 1) := by decide +kernel
theorem dX12_analysis_182 : decode cX12_analysis 182 = .ok (.if_icmp .le 7, 3) := by decide +kernel
theorem dX12_analysis_185 : decode cX12_analysis 185 = .ok (.iconst (-1), 1) := by decide +kernel
theorem dX12_analysis_186 : decode cX12_analysis 186 = .ok (.goto 21, 3) := by decide +kernel
theorem dX12_analysis_189 : decode cX12_analysis 189 = .ok (.aload_n 0, 1) := by decide +kernel
theorem dX12_analysis_190 : decode cX12_analysis 190 = .ok (.getfield 22, 3) := by decide +kernel
theorem dX12_analysis_193 : decode cX12_analysis 193 = .ok (.iload 4, 2) := by decide +kernel
theorem dX12_analysis_195 : decode cX12_analysis 195 = .ok (.iaload, 1) := by decide +kernel
theorem dX12_analysis_196 : decode cX12_analysis 196 = .ok (.iload_n 3, 1) := by decide +kernel
theorem dX12_analysis_197 : decode cX12_analysis 197 = .ok (.if_icmp .ge 8, 3) := by decide +kernel
theorem dX12_analysis_200 : decode cX12_analysis 200 = .ok (.bipush (-2), 2) := by decide +kernel
theorem dX12_analysis_202 : decode cX12_analysis 202 = .ok (.goto 5, 3) := by decide +kernel
theorem dX12_analysis_205 : decode cX12_analysis 205 = .ok (.iload 4, 2) := by decide +kernel
theorem dX12_analysis_207 : decode cX12_analysis 207 = .ok (.ireturn, 1) := by decide +kernel
theorem dX12_isLine_0 : decode cX12_isLine 0 = .ok (.iload_n 0, 1) := by decide +kernel
theorem dX12_isLine_1 : decode cX12_isLine 1 = .ok (.i2l, 1) := by decide +kernel
theorem dX12_isLine_2 : decode cX12_isLine 2 = .ok (.lconst 0, 1) := by decide +kernel
theorem dX12_isLine_3 : decode cX12_isLine 3 = .ok (.ldc2_w 283, 3) := by decide +kernel
theorem dX12_isLine_6 : decode cX12_isLine 6 = .ok (.invokestatic 268, 3) := by decide +kernel
theorem dX12_isLine_9 : decode cX12_isLine 9 = .ok (.ireturn, 1) := by decide +kernel
theorem dX12_isFree_0 : decode cX12_isFree 0 = .ok (.aload_n 0, 1) := by decide +kernel
theorem dX12_isFree_1 : decode cX12_isFree 1 = .ok (.getfield 34, 3) := by decide +kernel
theorem dX12_isFree_4 : decode cX12_isFree 4 = .ok (.iload_n 1, 1) := by decide +kernel
theorem dX12_isFree_5 : decode cX12_isFree 5 = .ok (.baload, 1) := by decide +kernel
theorem dX12_isFree_6 : decode cX12_isFree 6 = .ok (.ifCond .ne 17, 3) := by decide +kernel
theorem dX12_isFree_9 : decode cX12_isFree 9 = .ok (.aload_n 0, 1) := by decide +kernel
theorem dX12_isFree_10 : decode cX12_isFree 10 = .ok (.getfield 62, 3) := by decide +kernel
theorem dX12_isFree_13 : decode cX12_isFree 13 = .ok (.iload_n 1, 1) := by decide +kernel
theorem dX12_isFree_14 : decode cX12_isFree 14 = .ok (.iaload, 1) := by decide +kernel
theorem dX12_isFree_15 : decode cX12_isFree 15 = .ok (.iconst (-1), 1) := by decide +kernel
theorem dX12_isFree_16 : decode cX12_isFree 16 = .ok (.if_icmp .ne 7, 3) := by decide +kernel
theorem dX12_isFree_19 : decode cX12_isFree 19 = .ok (.iconst 1, 1) := by decide +kernel
theorem dX12_isFree_20 : decode cX12_isFree 20 = .ok (.goto 4, 3) := by decide +kernel
theorem dX12_isFree_23 : decode cX12_isFree 23 = .ok (.iconst 0, 1) := by decide +kernel
theorem dX12_isFree_24 : decode cX12_isFree 24 = .ok (.ireturn, 1) := by decide +kernel
theorem dX12_unring_0 : decode cX12_unring 0 = .ok (.aload_n 0, 1) := by decide +kernel
theorem dX12_unring_1 : decode cX12_unring 1 = .ok (.getfield 62, 3) := by decide +kernel
theorem dX12_unring_4 : decode cX12_unring 4 = .ok (.iload_n 1, 1) := by decide +kernel
theorem dX12_unring_5 : decode cX12_unring 5 = .ok (.iconst (-1), 1) := by decide +kernel
theorem dX12_unring_6 : decode cX12_unring 6 = .ok (.iastore, 1) := by decide +kernel
theorem dX12_unring_7 : decode cX12_unring 7 = .ok (.aload_n 0, 1) := by decide +kernel
theorem dX12_unring_8 : decode cX12_unring 8 = .ok (.getfield 34, 3) := by decide +kernel
theorem dX12_unring_11 : decode cX12_unring 11 = .ok (.iload_n 1, 1) := by decide +kernel
theorem dX12_unring_12 : decode cX12_unring 12 = .ok (.baload, 1) := by decide +kernel
theorem dX12_unring_13 : decode cX12_unring 13 = .ok (.ifCond .ne 13, 3) := by decide +kernel
theorem dX12_unring_16 : decode cX12_unring 16 = .ok (.aload_n 0, 1) := by decide +kernel
theorem dX12_unring_17 : decode cX12_unring 17 = .ok (.getfield 74, 3) := by decide +kernel
theorem dX12_unring_20 : decode cX12_unring 20 = .ok (.iload_n 1, 1) := by decide +kernel
theorem dX12_unring_21 : decode cX12_unring 21 = .ok (.aload_n 0, 1) := by decide +kernel
theorem dX12_unring_22 : decode cX12_unring 22 = .ok (.getfield 285, 3) := by decide +kernel
theorem dX12_unring_25 : decode cX12_unring 25 = .ok (.iastore, 1) := by decide +kernel
theorem dX12_unring_26 : decode cX12_unring 26 = .ok (.return_, 1) := by decide +kernel
theorem dX12_feature_0 : decode cX12_feature 0 = .ok (.iload_n 1, 1) := by decide +kernel
theorem dX12_feature_1 : decode cX12_feature 1 = .ok (.invokestatic 288, 3) := by decide +kernel
theorem dX12_feature_4 : decode cX12_feature 4 = .ok (.ifCond .eq 15, 3) := by decide +kernel
theorem dX12_feature_7 : decode cX12_feature 7 = .ok (.iload_n 2, 1) := by decide +kernel
theorem dX12_feature_8 : decode cX12_feature 8 = .ok (.i2l, 1) := by decide +kernel
theorem dX12_feature_9 : decode cX12_feature 9 = .ok (.lconst 0, 1) := by decide +kernel
theorem dX12_feature_10 : decode cX12_feature 10 = .ok (.ldc2_w 281, 3) := by decide +kernel
theorem dX12_feature_13 : decode cX12_feature 13 = .ok (.invokestatic 268, 3) := by decide +kernel
theorem dX12_feature_16 : decode cX12_feature 16 = .ok (.ifCond .ne 6, 3) := by decide +kernel
theorem dX12_feature_19 : decode cX12_feature 19 = .ok (.bipush (-2), 2) := by decide +kernel
theorem dX12_feature_21 : decode cX12_feature 21 = .ok (.ireturn, 1) := by decide +kernel
theorem dX12_feature_22 : decode cX12_feature 22 = .ok (.aload_n 0, 1) := by decide +kernel
theorem dX12_feature_23 : decode cX12_feature 23 = .ok (.getfield 80, 3) := by decide +kernel
theorem dX12_feature_26 : decode cX12_feature 26 = .ok (.iconst 3, 1) := by decide +kernel
theorem dX12_feature_27 : decode cX12_feature 27 = .ok (.iload_n 1, 1) := by decide +kernel
theorem dX12_feature_28 : decode cX12_feature 28 = .ok (.imul, 1) := by decide +kernel
theorem dX12_feature_29 : decode cX12_feature 29 = .ok (.iload_n 2, 1) := by decide +kernel
theorem dX12_feature_30 : decode cX12_feature 30 = .ok (.iadd, 1) := by decide +kernel
theorem dX12_feature_31 : decode cX12_feature 31 = .ok (.baload, 1) := by decide +kernel
theorem dX12_feature_32 : decode cX12_feature 32 = .ok (.istore 4, 2) := by decide +kernel
theorem dX12_feature_34 : decode cX12_feature 34 = .ok (.aload_n 0, 1) := by decide +kernel
theorem dX12_feature_35 : decode cX12_feature 35 = .ok (.getfield 80, 3) := by decide +kernel
theorem dX12_feature_38 : decode cX12_feature 38 = .ok (.iconst 3, 1) := by decide +kernel
theorem dX12_feature_39 : decode cX12_feature 39 = .ok (.iload_n 1, 1) := by decide +kernel
theorem dX12_feature_40 : decode cX12_feature 40 = .ok (.imul, 1) := by decide +kernel
theorem dX12_feature_41 : decode cX12_feature 41 = .ok (.iload_n 2, 1) := by decide +kernel
theorem dX12_feature_42 : decode cX12_feature 42 = .ok (.iadd, 1) := by decide +kernel
theorem dX12_feature_43 : decode cX12_feature 43 = .ok (.iload_n 3, 1) := by decide +kernel
theorem dX12_feature_44 : decode cX12_feature 44 = .ok (.bastore, 1) := by decide +kernel
theorem dX12_feature_45 : decode cX12_feature 45 = .ok (.iload 4, 2) := by decide +kernel
theorem dX12_feature_47 : decode cX12_feature 47 = .ok (.ifCond .eq 7, 3) := by decide +kernel
theorem dX12_feature_50 : decode cX12_feature 50 = .ok (.iconst 1, 1) := by decide +kernel
theorem dX12_feature_51 : decode cX12_feature 51 = .ok (.goto 4, 3) := by decide +kernel
theorem dX12_feature_54 : decode cX12_feature 54 = .ok (.iconst 0, 1) := by decide +kernel
theorem dX12_feature_55 : decode cX12_feature 55 = .ok (.ireturn, 1) := by decide +kernel
theorem dX12_forward_0 : decode cX12_forward 0 = .ok (.iload_n 1, 1) := by decide +kernel
theorem dX12_forward_1 : decode cX12_forward 1 = .ok (.invokestatic 288, 3) := by decide +kernel
theorem dX12_forward_4 : decode cX12_forward 4 = .ok (.ifCond .eq 15, 3) := by decide +kernel
theorem dX12_forward_7 : decode cX12_forward 7 = .ok (.iload_n 2, 1) := by decide +kernel
theorem dX12_forward_8 : decode cX12_forward 8 = .ok (.i2l, 1) := by decide +kernel
theorem dX12_forward_9 : decode cX12_forward 9 = .ok (.lconst 0, 1) := by decide +kernel
theorem dX12_forward_10 : decode cX12_forward 10 = .ok (.ldc2_w 281, 3) := by decide +kernel
theorem dX12_forward_13 : decode cX12_forward 13 = .ok (.invokestatic 268, 3) := by decide +kernel
theorem dX12_forward_16 : decode cX12_forward 16 = .ok (.ifCond .ne 6, 3) := by decide +kernel
theorem dX12_forward_19 : decode cX12_forward 19 = .ok (.bipush (-2), 2) := by decide +kernel
theorem dX12_forward_21 : decode cX12_forward 21 = .ok (.ireturn, 1) := by decide +kernel
theorem dX12_forward_22 : decode cX12_forward 22 = .ok (.iconst 3, 1) := by decide +kernel
theorem dX12_forward_23 : decode cX12_forward 23 = .ok (.iload_n 1, 1) := by decide +kernel
theorem dX12_forward_24 : decode cX12_forward 24 = .ok (.imul, 1) := by decide +kernel
theorem dX12_forward_25 : decode cX12_forward 25 = .ok (.iload_n 2, 1) := by decide +kernel
theorem dX12_forward_26 : decode cX12_forward 26 = .ok (.iadd, 1) := by decide +kernel
theorem dX12_forward_27 : decode cX12_forward 27 = .ok (.istore_n 3, 1) := by decide +kernel
theorem dX12_forward_28 : decode cX12_forward 28 = .ok (.iconst 0, 1) := by decide +kernel
theorem dX12_forward_29 : decode cX12_forward 29 = .ok (.istore 4, 2) := by decide +kernel
theorem dX12_forward_31 : decode cX12_forward 31 = .ok (.iload 4, 2) := by decide +kernel
theorem dX12_forward_33 : decode cX12_forward 33 = .ok (.aload_n 0, 1) := by decide +kernel
theorem dX12_forward_34 : decode cX12_forward 34 = .ok (.getfield 272, 3) := by decide +kernel
theorem dX12_forward_37 : decode cX12_forward 37 = .ok (.if_icmp .ge 28, 3) := by decide +kernel
theorem dX12_forward_40 : decode cX12_forward 40 = .ok (.aload_n 0, 1) := by decide +kernel
theorem dX12_forward_41 : decode cX12_forward 41 = .ok (.getfield 83, 3) := by decide +kernel
theorem dX12_forward_44 : decode cX12_forward 44 = .ok (.bipush 12, 2) := by decide +kernel
theorem dX12_forward_46 : decode cX12_forward 46 = .ok (.iload_n 3, 1) := by decide +kernel
theorem dX12_forward_47 : decode cX12_forward 47 = .ok (.imul, 1) := by decide +kernel
theorem dX12_forward_48 : decode cX12_forward 48 = .ok (.iload 4, 2) := by decide +kernel
theorem dX12_forward_50 : decode cX12_forward 50 = .ok (.iadd, 1) := by decide +kernel
theorem dX12_forward_51 : decode cX12_forward 51 = .ok (.aload_n 0, 1) := by decide +kernel
theorem dX12_forward_52 : decode cX12_forward 52 = .ok (.getfield 9, 3) := by decide +kernel
theorem dX12_forward_55 : decode cX12_forward 55 = .ok (.iload 4, 2) := by decide +kernel
theorem dX12_forward_57 : decode cX12_forward 57 = .ok (.iaload, 1) := by decide +kernel
theorem dX12_forward_58 : decode cX12_forward 58 = .ok (.iastore, 1) := by decide +kernel
theorem dX12_forward_59 : decode cX12_forward 59 = .ok (.iinc 4 1, 3) := by decide +kernel
theorem dX12_forward_62 : decode cX12_forward 62 = .ok (.goto (-31), 3) := by decide +kernel
theorem dX12_forward_65 : decode cX12_forward 65 = .ok (.aload_n 0, 1) := by decide +kernel
theorem dX12_forward_66 : decode cX12_forward 66 = .ok (.getfield 86, 3) := by decide +kernel
theorem dX12_forward_69 : decode cX12_forward 69 = .ok (.iload_n 3, 1) := by decide +kernel
theorem dX12_forward_70 : decode cX12_forward 70 = .ok (.aload_n 0, 1) := by decide +kernel
theorem dX12_forward_71 : decode cX12_forward 71 = .ok (.getfield 272, 3) := by decide +kernel
theorem dX12_forward_74 : decode cX12_forward 74 = .ok (.iastore, 1) := by decide +kernel
theorem dX12_forward_75 : decode cX12_forward 75 = .ok (.aload_n 0, 1) := by decide +kernel
theorem dX12_forward_76 : decode cX12_forward 76 = .ok (.iconst 0, 1) := by decide +kernel
theorem dX12_forward_77 : decode cX12_forward 77 = .ok (.putfield 272, 3) := by decide +kernel
theorem dX12_forward_80 : decode cX12_forward 80 = .ok (.iconst 1, 1) := by decide +kernel
theorem dX12_forward_81 : decode cX12_forward 81 = .ok (.ireturn, 1) := by decide +kernel
theorem dX12_credit_0 : decode cX12_credit 0 = .ok (.iload_n 1, 1) := by decide +kernel
theorem dX12_credit_1 : decode cX12_credit 1 = .ok (.invokestatic 288, 3) := by decide +kernel
theorem dX12_credit_4 : decode cX12_credit 4 = .ok (.ifCond .eq 17, 3) := by decide +kernel
theorem dX12_credit_7 : decode cX12_credit 7 = .ok (.iload_n 2, 1) := by decide +kernel
theorem dX12_credit_8 : decode cX12_credit 8 = .ok (.i2l, 1) := by decide +kernel
theorem dX12_credit_9 : decode cX12_credit 9 = .ok (.ldc2_w 292, 3) := by decide +kernel
theorem dX12_credit_12 : decode cX12_credit 12 = .ok (.ldc2_w 294, 3) := by decide +kernel
theorem dX12_credit_15 : decode cX12_credit 15 = .ok (.invokestatic 268, 3) := by decide +kernel
theorem dX12_credit_18 : decode cX12_credit 18 = .ok (.ifCond .ne 6, 3) := by decide +kernel
theorem dX12_credit_21 : decode cX12_credit 21 = .ok (.bipush (-2), 2) := by decide +kernel
theorem dX12_credit_23 : decode cX12_credit 23 = .ok (.ireturn, 1) := by decide +kernel
theorem dX12_credit_24 : decode cX12_credit 24 = .ok (.aload_n 0, 1) := by decide +kernel
theorem dX12_credit_25 : decode cX12_credit 25 = .ok (.getfield 77, 3) := by decide +kernel
theorem dX12_credit_28 : decode cX12_credit 28 = .ok (.iload_n 1, 1) := by decide +kernel
theorem dX12_credit_29 : decode cX12_credit 29 = .ok (.iaload, 1) := by decide +kernel
theorem dX12_credit_30 : decode cX12_credit 30 = .ok (.istore_n 3, 1) := by decide +kernel
theorem dX12_credit_31 : decode cX12_credit 31 = .ok (.aload_n 0, 1) := by decide +kernel
theorem dX12_credit_32 : decode cX12_credit 32 = .ok (.getfield 77, 3) := by decide +kernel
theorem dX12_credit_35 : decode cX12_credit 35 = .ok (.iload_n 1, 1) := by decide +kernel
theorem dX12_credit_36 : decode cX12_credit 36 = .ok (.iload_n 2, 1) := by decide +kernel
theorem dX12_credit_37 : decode cX12_credit 37 = .ok (.iastore, 1) := by decide +kernel
theorem dX12_credit_38 : decode cX12_credit 38 = .ok (.iload_n 3, 1) := by decide +kernel
theorem dX12_credit_39 : decode cX12_credit 39 = .ok (.ireturn, 1) := by decide +kernel
theorem dX12_hook_0 : decode cX12_hook 0 = .ok (.iload_n 1, 1) := by decide +kernel
theorem dX12_hook_1 : decode cX12_hook 1 = .ok (.invokestatic 288, 3) := by decide +kernel
theorem dX12_hook_4 : decode cX12_hook 4 = .ok (.ifCond .ne 6, 3) := by decide +kernel
theorem dX12_hook_7 : decode cX12_hook 7 = .ok (.bipush (-2), 2) := by decide +kernel
theorem dX12_hook_9 : decode cX12_hook 9 = .ok (.ireturn, 1) := by decide +kernel
theorem dX12_hook_10 : decode cX12_hook 10 = .ok (.aload_n 0, 1) := by decide +kernel
theorem dX12_hook_11 : decode cX12_hook 11 = .ok (.getfield 38, 3) := by decide +kernel
theorem dX12_hook_14 : decode cX12_hook 14 = .ok (.iload_n 1, 1) := by decide +kernel
theorem dX12_hook_15 : decode cX12_hook 15 = .ok (.baload, 1) := by decide +kernel
theorem dX12_hook_16 : decode cX12_hook 16 = .ok (.ifCond .eq 7, 3) := by decide +kernel
theorem dX12_hook_19 : decode cX12_hook 19 = .ok (.iconst 1, 1) := by decide +kernel
theorem dX12_hook_20 : decode cX12_hook 20 = .ok (.goto 4, 3) := by decide +kernel
theorem dX12_hook_23 : decode cX12_hook 23 = .ok (.iconst 0, 1) := by decide +kernel
theorem dX12_hook_24 : decode cX12_hook 24 = .ok (.istore_n 3, 1) := by decide +kernel
theorem dX12_hook_25 : decode cX12_hook 25 = .ok (.aload_n 0, 1) := by decide +kernel
theorem dX12_hook_26 : decode cX12_hook 26 = .ok (.getfield 38, 3) := by decide +kernel
theorem dX12_hook_29 : decode cX12_hook 29 = .ok (.iload_n 1, 1) := by decide +kernel
theorem dX12_hook_30 : decode cX12_hook 30 = .ok (.iload_n 2, 1) := by decide +kernel
theorem dX12_hook_31 : decode cX12_hook 31 = .ok (.bastore, 1) := by decide +kernel
theorem dX12_hook_32 : decode cX12_hook 32 = .ok (.iload_n 3, 1) := by decide +kernel
theorem dX12_hook_33 : decode cX12_hook 33 = .ok (.ireturn, 1) := by decide +kernel
theorem dX12_dial_0 : decode cX12_dial 0 = .ok (.iload_n 1, 1) := by decide +kernel
theorem dX12_dial_1 : decode cX12_dial 1 = .ok (.invokestatic 288, 3) := by decide +kernel
theorem dX12_dial_4 : decode cX12_dial 4 = .ok (.ifCond .eq 24, 3) := by decide +kernel
theorem dX12_dial_7 : decode cX12_dial 7 = .ok (.iload_n 2, 1) := by decide +kernel
theorem dX12_dial_8 : decode cX12_dial 8 = .ok (.i2l, 1) := by decide +kernel
theorem dX12_dial_9 : decode cX12_dial 9 = .ok (.lconst 0, 1) := by decide +kernel
theorem dX12_dial_10 : decode cX12_dial 10 = .ok (.ldc2_w 266, 3) := by decide +kernel
theorem dX12_dial_13 : decode cX12_dial 13 = .ok (.invokestatic 268, 3) := by decide +kernel
theorem dX12_dial_16 : decode cX12_dial 16 = .ok (.ifCond .eq 12, 3) := by decide +kernel
theorem dX12_dial_19 : decode cX12_dial 19 = .ok (.aload_n 0, 1) := by decide +kernel
theorem dX12_dial_20 : decode cX12_dial 20 = .ok (.getfield 34, 3) := by decide +kernel
theorem dX12_dial_23 : decode cX12_dial 23 = .ok (.iload_n 1, 1) := by decide +kernel
theorem dX12_dial_24 : decode cX12_dial 24 = .ok (.baload, 1) := by decide +kernel
theorem dX12_dial_25 : decode cX12_dial 25 = .ok (.ifCond .ne 6, 3) := by decide +kernel
theorem dX12_dial_28 : decode cX12_dial 28 = .ok (.bipush (-2), 2) := by decide +kernel
theorem dX12_dial_30 : decode cX12_dial 30 = .ok (.ireturn, 1) := by decide +kernel
theorem dX12_dial_31 : decode cX12_dial 31 = .ok (.aload_n 0, 1) := by decide +kernel
theorem dX12_dial_32 : decode cX12_dial 32 = .ok (.getfield 53, 3) := by decide +kernel
theorem dX12_dial_35 : decode cX12_dial 35 = .ok (.iload_n 1, 1) := by decide +kernel
theorem dX12_dial_36 : decode cX12_dial 36 = .ok (.iaload, 1) := by decide +kernel
theorem dX12_dial_37 : decode cX12_dial 37 = .ok (.bipush 20, 2) := by decide +kernel
theorem dX12_dial_39 : decode cX12_dial 39 = .ok (.if_icmp .ne 6, 3) := by decide +kernel
theorem dX12_dial_42 : decode cX12_dial 42 = .ok (.bipush (-3), 2) := by decide +kernel
theorem dX12_dial_44 : decode cX12_dial 44 = .ok (.ireturn, 1) := by decide +kernel
theorem dX12_dial_45 : decode cX12_dial 45 = .ok (.aload_n 0, 1) := by decide +kernel
theorem dX12_dial_46 : decode cX12_dial 46 = .ok (.getfield 50, 3) := by decide +kernel
theorem dX12_dial_49 : decode cX12_dial 49 = .ok (.bipush 20, 2) := by decide +kernel
theorem dX12_dial_51 : decode cX12_dial 51 = .ok (.iload_n 1, 1) := by decide +kernel
theorem dX12_dial_52 : decode cX12_dial 52 = .ok (.imul, 1) := by decide +kernel
theorem dX12_dial_53 : decode cX12_dial 53 = .ok (.aload_n 0, 1) := by decide +kernel
theorem dX12_dial_54 : decode cX12_dial 54 = .ok (.getfield 53, 3) := by decide +kernel
theorem dX12_dial_57 : decode cX12_dial 57 = .ok (.iload_n 1, 1) := by decide +kernel
theorem dX12_dial_58 : decode cX12_dial 58 = .ok (.dup2, 1) := by decide +kernel
theorem dX12_dial_59 : decode cX12_dial 59 = .ok (.iaload, 1) := by decide +kernel
theorem dX12_dial_60 : decode cX12_dial 60 = .ok (.dup_x2, 1) := by decide +kernel
theorem dX12_dial_61 : decode cX12_dial 61 = .ok (.iconst 1, 1) := by decide +kernel
theorem dX12_dial_62 : decode cX12_dial 62 = .ok (.iadd, 1) := by decide +kernel
theorem dX12_dial_63 : decode cX12_dial 63 = .ok (.iastore, 1) := by decide +kernel
theorem dX12_dial_64 : decode cX12_dial 64 = .ok (.iadd, 1) := by decide +kernel
theorem dX12_dial_65 : decode cX12_dial 65 = .ok (.iload_n 2, 1) := by decide +kernel
theorem dX12_dial_66 : decode cX12_dial 66 = .ok (.iastore, 1) := by decide +kernel
theorem dX12_dial_67 : decode cX12_dial 67 = .ok (.aload_n 0, 1) := by decide +kernel
theorem dX12_dial_68 : decode cX12_dial 68 = .ok (.getfield 53, 3) := by decide +kernel
theorem dX12_dial_71 : decode cX12_dial 71 = .ok (.iload_n 1, 1) := by decide +kernel
theorem dX12_dial_72 : decode cX12_dial 72 = .ok (.iaload, 1) := by decide +kernel
theorem dX12_dial_73 : decode cX12_dial 73 = .ok (.ireturn, 1) := by decide +kernel
theorem dX12_say_0 : decode cX12_say 0 = .ok (.iload_n 1, 1) := by decide +kernel
theorem dX12_say_1 : decode cX12_say 1 = .ok (.invokestatic 288, 3) := by decide +kernel
theorem dX12_say_4 : decode cX12_say 4 = .ok (.ifCond .eq 17, 3) := by decide +kernel
theorem dX12_say_7 : decode cX12_say 7 = .ok (.iload_n 2, 1) := by decide +kernel
theorem dX12_say_8 : decode cX12_say 8 = .ok (.i2l, 1) := by decide +kernel
theorem dX12_say_9 : decode cX12_say 9 = .ok (.ldc2_w 296, 3) := by decide +kernel
theorem dX12_say_12 : decode cX12_say 12 = .ok (.ldc2_w 298, 3) := by decide +kernel
theorem dX12_say_15 : decode cX12_say 15 = .ok (.invokestatic 268, 3) := by decide +kernel
theorem dX12_say_18 : decode cX12_say 18 = .ok (.ifCond .ne 6, 3) := by decide +kernel
theorem dX12_say_21 : decode cX12_say 21 = .ok (.bipush (-2), 2) := by decide +kernel
theorem dX12_say_23 : decode cX12_say 23 = .ok (.ireturn, 1) := by decide +kernel
theorem dX12_say_24 : decode cX12_say 24 = .ok (.aload_n 0, 1) := by decide +kernel
theorem dX12_say_25 : decode cX12_say 25 = .ok (.getfield 89, 3) := by decide +kernel
theorem dX12_say_28 : decode cX12_say 28 = .ok (.iload_n 1, 1) := by decide +kernel
theorem dX12_say_29 : decode cX12_say 29 = .ok (.iaload, 1) := by decide +kernel
theorem dX12_say_30 : decode cX12_say 30 = .ok (.istore_n 3, 1) := by decide +kernel
theorem dX12_say_31 : decode cX12_say 31 = .ok (.aload_n 0, 1) := by decide +kernel
theorem dX12_say_32 : decode cX12_say 32 = .ok (.getfield 89, 3) := by decide +kernel
theorem dX12_say_35 : decode cX12_say 35 = .ok (.iload_n 1, 1) := by decide +kernel
theorem dX12_say_36 : decode cX12_say 36 = .ok (.iload_n 2, 1) := by decide +kernel
theorem dX12_say_37 : decode cX12_say 37 = .ok (.iastore, 1) := by decide +kernel
theorem dX12_say_38 : decode cX12_say 38 = .ok (.iload_n 3, 1) := by decide +kernel
theorem dX12_say_39 : decode cX12_say 39 = .ok (.ireturn, 1) := by decide +kernel
theorem dX12_clears_0 : decode cX12_clears 0 = .ok (.aload_n 0, 1) := by decide +kernel
theorem dX12_clears_1 : decode cX12_clears 1 = .ok (.getfield 41, 3) := by decide +kernel
theorem dX12_clears_4 : decode cX12_clears 4 = .ok (.iload_n 1, 1) := by decide +kernel
theorem dX12_clears_5 : decode cX12_clears 5 = .ok (.iconst 0, 1) := by decide +kernel
theorem dX12_clears_6 : decode cX12_clears 6 = .ok (.iastore, 1) := by decide +kernel
theorem dX12_clears_7 : decode cX12_clears 7 = .ok (.aload_n 0, 1) := by decide +kernel
theorem dX12_clears_8 : decode cX12_clears 8 = .ok (.getfield 47, 3) := by decide +kernel
theorem dX12_clears_11 : decode cX12_clears 11 = .ok (.iload_n 1, 1) := by decide +kernel
theorem dX12_clears_12 : decode cX12_clears 12 = .ok (.iconst 0, 1) := by decide +kernel
theorem dX12_clears_13 : decode cX12_clears 13 = .ok (.iastore, 1) := by decide +kernel
theorem dX12_clears_14 : decode cX12_clears 14 = .ok (.aload_n 0, 1) := by decide +kernel
theorem dX12_clears_15 : decode cX12_clears 15 = .ok (.getfield 44, 3) := by decide +kernel
theorem dX12_clears_18 : decode cX12_clears 18 = .ok (.iload_n 1, 1) := by decide +kernel
theorem dX12_clears_19 : decode cX12_clears 19 = .ok (.iconst 0, 1) := by decide +kernel
theorem dX12_clears_20 : decode cX12_clears 20 = .ok (.iastore, 1) := by decide +kernel
theorem dX12_clears_21 : decode cX12_clears 21 = .ok (.aload_n 0, 1) := by decide +kernel
theorem dX12_clears_22 : decode cX12_clears 22 = .ok (.getfield 53, 3) := by decide +kernel
theorem dX12_clears_25 : decode cX12_clears 25 = .ok (.iload_n 1, 1) := by decide +kernel
theorem dX12_clears_26 : decode cX12_clears 26 = .ok (.iconst 0, 1) := by decide +kernel
theorem dX12_clears_27 : decode cX12_clears 27 = .ok (.iastore, 1) := by decide +kernel
theorem dX12_clears_28 : decode cX12_clears 28 = .ok (.return_, 1) := by decide +kernel
theorem dX12_looks_0 : decode cX12_looks 0 = .ok (.aload_n 0, 1) := by decide +kernel
theorem dX12_looks_1 : decode cX12_looks 1 = .ok (.getfield 34, 3) := by decide +kernel
theorem dX12_looks_4 : decode cX12_looks 4 = .ok (.iload_n 1, 1) := by decide +kernel
theorem dX12_looks_5 : decode cX12_looks 5 = .ok (.baload, 1) := by decide +kernel
theorem dX12_looks_6 : decode cX12_looks 6 = .ok (.ifCond .ne 18, 3) := by decide +kernel
theorem dX12_looks_9 : decode cX12_looks 9 = .ok (.aload_n 0, 1) := by decide +kernel
theorem dX12_looks_10 : decode cX12_looks 10 = .ok (.getfield 38, 3) := by decide +kernel
theorem dX12_looks_13 : decode cX12_looks 13 = .ok (.iload_n 1, 1) := by decide +kernel
theorem dX12_looks_14 : decode cX12_looks 14 = .ok (.baload, 1) := by decide +kernel
theorem dX12_looks_15 : decode cX12_looks 15 = .ok (.ifCond .eq 8, 3) := by decide +kernel
theorem dX12_looks_18 : decode cX12_looks 18 = .ok (.aload_n 0, 1) := by decide +kernel
theorem dX12_looks_19 : decode cX12_looks 19 = .ok (.iload_n 1, 1) := by decide +kernel
theorem dX12_looks_20 : decode cX12_looks 20 = .ok (.invokevirtual 300, 3) := by decide +kernel
theorem dX12_looks_23 : decode cX12_looks 23 = .ok (.return_, 1) := by decide +kernel
theorem dX12_looks_24 : decode cX12_looks 24 = .ok (.aload_n 0, 1) := by decide +kernel
theorem dX12_looks_25 : decode cX12_looks 25 = .ok (.getfield 38, 3) := by decide +kernel
theorem dX12_looks_28 : decode cX12_looks 28 = .ok (.iload_n 1, 1) := by decide +kernel
theorem dX12_looks_29 : decode cX12_looks 29 = .ok (.baload, 1) := by decide +kernel
theorem dX12_looks_30 : decode cX12_looks 30 = .ok (.ifCond .ne 30, 3) := by decide +kernel
theorem dX12_looks_33 : decode cX12_looks 33 = .ok (.aload_n 0, 1) := by decide +kernel
theorem dX12_looks_34 : decode cX12_looks 34 = .ok (.getfield 41, 3) := by decide +kernel
theorem dX12_looks_37 : decode cX12_looks 37 = .ok (.iload_n 1, 1) := by decide +kernel
theorem dX12_looks_38 : decode cX12_looks 38 = .ok (.dup2, 1) := by decide +kernel
theorem dX12_looks_39 : decode cX12_looks 39 = .ok (.iaload, 1) := by decide +kernel
theorem dX12_looks_40 : decode cX12_looks 40 = .ok (.iconst 1, 1) := by decide +kernel
theorem dX12_looks_41 : decode cX12_looks 41 = .ok (.iadd, 1) := by decide +kernel
theorem dX12_looks_42 : decode cX12_looks 42 = .ok (.iastore, 1) := by decide +kernel
theorem dX12_looks_43 : decode cX12_looks 43 = .ok (.aload_n 0, 1) := by decide +kernel
theorem dX12_looks_44 : decode cX12_looks 44 = .ok (.getfield 41, 3) := by decide +kernel
theorem dX12_looks_47 : decode cX12_looks 47 = .ok (.iload_n 1, 1) := by decide +kernel
theorem dX12_looks_48 : decode cX12_looks 48 = .ok (.iaload, 1) := by decide +kernel
theorem dX12_looks_49 : decode cX12_looks 49 = .ok (.bipush 40, 2) := by decide +kernel
theorem dX12_looks_51 : decode cX12_looks 51 = .ok (.if_icmp .ne 8, 3) := by decide +kernel
theorem dX12_looks_54 : decode cX12_looks 54 = .ok (.aload_n 0, 1) := by decide +kernel
theorem dX12_looks_55 : decode cX12_looks 55 = .ok (.iload_n 1, 1) := by decide +kernel
theorem dX12_looks_56 : decode cX12_looks 56 = .ok (.invokevirtual 304, 3) := by decide +kernel
theorem dX12_looks_59 : decode cX12_looks 59 = .ok (.return_, 1) := by decide +kernel
theorem dX12_looks_60 : decode cX12_looks 60 = .ok (.aload_n 0, 1) := by decide +kernel
theorem dX12_looks_61 : decode cX12_looks 61 = .ok (.getfield 41, 3) := by decide +kernel
theorem dX12_looks_64 : decode cX12_looks 64 = .ok (.iload_n 1, 1) := by decide +kernel
theorem dX12_looks_65 : decode cX12_looks 65 = .ok (.iaload, 1) := by decide +kernel
theorem dX12_looks_66 : decode cX12_looks 66 = .ok (.bipush 9, 2) := by decide +kernel
theorem dX12_looks_68 : decode cX12_looks 68 = .ok (.if_icmp .le 25, 3) := by decide +kernel
theorem dX12_looks_71 : decode cX12_looks 71 = .ok (.aload_n 0, 1) := by decide +kernel
theorem dX12_looks_72 : decode cX12_looks 72 = .ok (.getfield 44, 3) := by decide +kernel
theorem dX12_looks_75 : decode cX12_looks 75 = .ok (.iload_n 1, 1) := by decide +kernel
theorem dX12_looks_76 : decode cX12_looks 76 = .ok (.iconst 0, 1) := by decide +kernel
theorem dX12_looks_77 : decode cX12_looks 77 = .ok (.iastore, 1) := by decide +kernel
theorem dX12_looks_78 : decode cX12_looks 78 = .ok (.aload_n 0, 1) := by decide +kernel
theorem dX12_looks_79 : decode cX12_looks 79 = .ok (.getfield 41, 3) := by decide +kernel
theorem dX12_looks_82 : decode cX12_looks 82 = .ok (.iload_n 1, 1) := by decide +kernel
theorem dX12_looks_83 : decode cX12_looks 83 = .ok (.iconst 0, 1) := by decide +kernel
theorem dX12_looks_84 : decode cX12_looks 84 = .ok (.iastore, 1) := by decide +kernel
theorem dX12_looks_85 : decode cX12_looks 85 = .ok (.aload_n 0, 1) := by decide +kernel
theorem dX12_looks_86 : decode cX12_looks 86 = .ok (.iload_n 1, 1) := by decide +kernel
theorem dX12_looks_87 : decode cX12_looks 87 = .ok (.invokevirtual 307, 3) := by decide +kernel
theorem dX12_looks_90 : decode cX12_looks 90 = .ok (.goto 36, 3) := by decide +kernel
theorem dX12_looks_93 : decode cX12_looks 93 = .ok (.aload_n 0, 1) := by decide +kernel
theorem dX12_looks_94 : decode cX12_looks 94 = .ok (.getfield 41, 3) := by decide +kernel
theorem dX12_looks_97 : decode cX12_looks 97 = .ok (.iload_n 1, 1) := by decide +kernel
theorem dX12_looks_98 : decode cX12_looks 98 = .ok (.iaload, 1) := by decide +kernel
theorem dX12_looks_99 : decode cX12_looks 99 = .ok (.ifCond .le 27, 3) := by decide +kernel
theorem dX12_looks_102 : decode cX12_looks 102 = .ok (.aload_n 0, 1) := by decide +kernel
theorem dX12_looks_103 : decode cX12_looks 103 = .ok (.getfield 44, 3) := by decide +kernel
theorem dX12_looks_106 : decode cX12_looks 106 = .ok (.iload_n 1, 1) := by decide +kernel
theorem dX12_looks_107 : decode cX12_looks 107 = .ok (.dup2, 1) := by decide +kernel
theorem dX12_looks_108 : decode cX12_looks 108 = .ok (.iaload, 1) := by decide +kernel
theorem dX12_looks_109 : decode cX12_looks 109 = .ok (.iconst 1, 1) := by decide +kernel
theorem dX12_looks_110 : decode cX12_looks 110 = .ok (.iadd, 1) := by decide +kernel
theorem dX12_looks_111 : decode cX12_looks 111 = .ok (.iastore, 1) := by decide +kernel
theorem dX12_looks_112 : decode cX12_looks 112 = .ok (.aload_n 0, 1) := by decide +kernel
theorem dX12_looks_113 : decode cX12_looks 113 = .ok (.getfield 47, 3) := by decide +kernel
theorem dX12_looks_116 : decode cX12_looks 116 = .ok (.iload_n 1, 1) := by decide +kernel
theorem dX12_looks_117 : decode cX12_looks 117 = .ok (.iconst 0, 1) := by decide +kernel
theorem dX12_looks_118 : decode cX12_looks 118 = .ok (.iastore, 1) := by decide +kernel
theorem dX12_looks_119 : decode cX12_looks 119 = .ok (.aload_n 0, 1) := by decide +kernel
theorem dX12_looks_120 : decode cX12_looks 120 = .ok (.getfield 41, 3) := by decide +kernel
theorem dX12_looks_123 : decode cX12_looks 123 = .ok (.iload_n 1, 1) := by decide +kernel
theorem dX12_looks_124 : decode cX12_looks 124 = .ok (.iconst 0, 1) := by decide +kernel
theorem dX12_looks_125 : decode cX12_looks 125 = .ok (.iastore, 1) := by decide +kernel
theorem dX12_looks_126 : decode cX12_looks 126 = .ok (.aload_n 0, 1) := by decide +kernel
theorem dX12_looks_127 : decode cX12_looks 127 = .ok (.getfield 44, 3) := by decide +kernel
theorem dX12_looks_130 : decode cX12_looks 130 = .ok (.iload_n 1, 1) := by decide +kernel
theorem dX12_looks_131 : decode cX12_looks 131 = .ok (.iaload, 1) := by decide +kernel
theorem dX12_looks_132 : decode cX12_looks 132 = .ok (.ifCond .le 56, 3) := by decide +kernel
theorem dX12_looks_135 : decode cX12_looks 135 = .ok (.aload_n 0, 1) := by decide +kernel
theorem dX12_looks_136 : decode cX12_looks 136 = .ok (.getfield 47, 3) := by decide +kernel
theorem dX12_looks_139 : decode cX12_looks 139 = .ok (.iload_n 1, 1) := by decide +kernel
theorem dX12_looks_140 : decode cX12_looks 140 = .ok (.dup2, 1) := by decide +kernel
theorem dX12_looks_141 : decode cX12_looks 141 = .ok (.iaload, 1) := by decide +kernel
theorem dX12_looks_142 : decode cX12_looks 142 = .ok (.iconst 1, 1) := by decide +kernel
theorem dX12_looks_143 : decode cX12_looks 143 = .ok (.iadd, 1) := by decide +kernel
theorem dX12_looks_144 : decode cX12_looks 144 = .ok (.iastore, 1) := by decide +kernel
theorem dX12_looks_145 : decode cX12_looks 145 = .ok (.aload_n 0, 1) := by decide +kernel
theorem dX12_looks_146 : decode cX12_looks 146 = .ok (.getfield 47, 3) := by decide +kernel
theorem dX12_looks_149 : decode cX12_looks 149 = .ok (.iload_n 1, 1) := by decide +kernel
theorem dX12_looks_150 : decode cX12_looks 150 = .ok (.iaload, 1) := by decide +kernel
theorem dX12_looks_151 : decode cX12_looks 151 = .ok (.bipush 20, 2) := by decide +kernel
theorem dX12_looks_153 : decode cX12_looks 153 = .ok (.if_icmp .ne 112, 3) := by decide +kernel
theorem dX12_looks_156 : decode cX12_looks 156 = .ok (.aload_n 0, 1) := by decide +kernel
theorem dX12_looks_157 : decode cX12_looks 157 = .ok (.getfield 44, 3) := by decide +kernel
theorem dX12_looks_160 : decode cX12_looks 160 = .ok (.iload_n 1, 1) := by decide +kernel
theorem dX12_looks_161 : decode cX12_looks 161 = .ok (.iaload, 1) := by decide +kernel
theorem dX12_looks_162 : decode cX12_looks 162 = .ok (.istore_n 2, 1) := by decide +kernel
theorem dX12_looks_163 : decode cX12_looks 163 = .ok (.aload_n 0, 1) := by decide +kernel
theorem dX12_looks_164 : decode cX12_looks 164 = .ok (.getfield 44, 3) := by decide +kernel
theorem dX12_looks_167 : decode cX12_looks 167 = .ok (.iload_n 1, 1) := by decide +kernel
theorem dX12_looks_168 : decode cX12_looks 168 = .ok (.iconst 0, 1) := by decide +kernel
theorem dX12_looks_169 : decode cX12_looks 169 = .ok (.iastore, 1) := by decide +kernel
theorem dX12_looks_170 : decode cX12_looks 170 = .ok (.iload_n 2, 1) := by decide +kernel
theorem dX12_looks_171 : decode cX12_looks 171 = .ok (.bipush 10, 2) := by decide +kernel
theorem dX12_looks_173 : decode cX12_looks 173 = .ok (.if_icmp .gt 12, 3) := by decide +kernel
theorem dX12_looks_176 : decode cX12_looks 176 = .ok (.aload_n 0, 1) := by decide +kernel
theorem dX12_looks_177 : decode cX12_looks 177 = .ok (.iload_n 1, 1) := by decide +kernel
theorem dX12_looks_178 : decode cX12_looks 178 = .ok (.iload_n 2, 1) := by decide +kernel
theorem dX12_looks_179 : decode cX12_looks 179 = .ok (.bipush 10, 2) := by decide +kernel
theorem dX12_looks_181 : decode cX12_looks 181 = .ok (.irem, 1) := by decide +kernel
theorem dX12_looks_182 : decode cX12_looks 182 = .ok (.invokevirtual 310, 3) := by decide +kernel
theorem dX12_looks_185 : decode cX12_looks 185 = .ok (.goto 80, 3) := by decide +kernel
theorem dX12_looks_188 : decode cX12_looks 188 = .ok (.aload_n 0, 1) := by decide +kernel
theorem dX12_looks_189 : decode cX12_looks 189 = .ok (.getfield 53, 3) := by decide +kernel
theorem dX12_looks_192 : decode cX12_looks 192 = .ok (.iload_n 1, 1) := by decide +kernel
theorem dX12_looks_193 : decode cX12_looks 193 = .ok (.iaload, 1) := by decide +kernel
theorem dX12_looks_194 : decode cX12_looks 194 = .ok (.ifCond .le 71, 3) := by decide +kernel
theorem dX12_looks_197 : decode cX12_looks 197 = .ok (.aload_n 0, 1) := by decide +kernel
theorem dX12_looks_198 : decode cX12_looks 198 = .ok (.getfield 50, 3) := by decide +kernel
theorem dX12_looks_201 : decode cX12_looks 201 = .ok (.bipush 20, 2) := by decide +kernel
theorem dX12_looks_203 : decode cX12_looks 203 = .ok (.iload_n 1, 1) := by decide +kernel
theorem dX12_looks_204 : decode cX12_looks 204 = .ok (.imul, 1) := by decide +kernel
theorem dX12_looks_205 : decode cX12_looks 205 = .ok (.iaload, 1) := by decide +kernel
theorem dX12_looks_206 : decode cX12_looks 206 = .ok (.istore_n 2, 1) := by decide +kernel
theorem dX12_looks_207 : decode cX12_looks 207 = .ok (.aload_n 0, 1) := by decide +kernel
theorem dX12_looks_208 : decode cX12_looks 208 = .ok (.getfield 53, 3) := by decide +kernel
theorem dX12_looks_211 : decode cX12_looks 211 = .ok (.iload_n 1, 1) := by decide +kernel
theorem dX12_looks_212 : decode cX12_looks 212 = .ok (.dup2, 1) := by decide +kernel
theorem dX12_looks_213 : decode cX12_looks 213 = .ok (.iaload, 1) := by decide +kernel
theorem dX12_looks_214 : decode cX12_looks 214 = .ok (.iconst 1, 1) := by decide +kernel
theorem dX12_looks_215 : decode cX12_looks 215 = .ok (.isub, 1) := by decide +kernel
theorem dX12_looks_216 : decode cX12_looks 216 = .ok (.iastore, 1) := by decide +kernel
theorem dX12_looks_217 : decode cX12_looks 217 = .ok (.iconst 0, 1) := by decide +kernel
theorem dX12_looks_218 : decode cX12_looks 218 = .ok (.istore_n 3, 1) := by decide +kernel
theorem dX12_looks_219 : decode cX12_looks 219 = .ok (.iload_n 3, 1) := by decide +kernel
theorem dX12_looks_220 : decode cX12_looks 220 = .ok (.aload_n 0, 1) := by decide +kernel
theorem dX12_looks_221 : decode cX12_looks 221 = .ok (.getfield 53, 3) := by decide +kernel
theorem dX12_looks_224 : decode cX12_looks 224 = .ok (.iload_n 1, 1) := by decide +kernel
theorem dX12_looks_225 : decode cX12_looks 225 = .ok (.iaload, 1) := by decide +kernel
theorem dX12_looks_226 : decode cX12_looks 226 = .ok (.if_icmp .ge 33, 3) := by decide +kernel
theorem dX12_looks_229 : decode cX12_looks 229 = .ok (.aload_n 0, 1) := by decide +kernel
theorem dX12_looks_230 : decode cX12_looks 230 = .ok (.getfield 50, 3) := by decide +kernel
theorem dX12_looks_233 : decode cX12_looks 233 = .ok (.bipush 20, 2) := by decide +kernel
theorem dX12_looks_235 : decode cX12_looks 235 = .ok (.iload_n 1, 1) := by decide +kernel
theorem dX12_looks_236 : decode cX12_looks 236 = .ok (.imul, 1) := by decide +kernel
theorem dX12_looks_237 : decode cX12_looks 237 = .ok (.iload_n 3, 1) := by decide +kernel
theorem dX12_looks_238 : decode cX12_looks 238 = .ok (.iadd, 1) := by decide +kernel
theorem dX12_looks_239 : decode cX12_looks 239 = .ok (.aload_n 0, 1) := by decide +kernel
theorem dX12_looks_240 : decode cX12_looks 240 = .ok (.getfield 50, 3) := by decide +kernel
theorem dX12_looks_243 : decode cX12_looks 243 = .ok (.bipush 20, 2) := by decide +kernel
theorem dX12_looks_245 : decode cX12_looks 245 = .ok (.iload_n 1, 1) := by decide +kernel
theorem dX12_looks_246 : decode cX12_looks 246 = .ok (.imul, 1) := by decide +kernel
theorem dX12_looks_247 : decode cX12_looks 247 = .ok (.iload_n 3, 1) := by decide +kernel
theorem dX12_looks_248 : decode cX12_looks 248 = .ok (.iadd, 1) := by decide +kernel
theorem dX12_looks_249 : decode cX12_looks 249 = .ok (.iconst 1, 1) := by decide +kernel
theorem dX12_looks_250 : decode cX12_looks 250 = .ok (.iadd, 1) := by decide +kernel
theorem dX12_looks_251 : decode cX12_looks 251 = .ok (.iaload, 1) := by decide +kernel
theorem dX12_looks_252 : decode cX12_looks 252 = .ok (.iastore, 1) := by decide +kernel
theorem dX12_looks_253 : decode cX12_looks 253 = .ok (.iinc 3 1, 3) := by decide +kernel
theorem dX12_looks_256 : decode cX12_looks 256 = .ok (.goto (-37), 3) := by decide +kernel
theorem dX12_looks_259 : decode cX12_looks 259 = .ok (.aload_n 0, 1) := by decide +kernel
theorem dX12_looks_260 : decode cX12_looks 260 = .ok (.iload_n 1, 1) := by decide +kernel
theorem dX12_looks_261 : decode cX12_looks 261 = .ok (.iload_n 2, 1) := by decide +kernel
theorem dX12_looks_262 : decode cX12_looks 262 = .ok (.invokevirtual 310, 3) := by decide +kernel
theorem dX12_looks_265 : decode cX12_looks 265 = .ok (.return_, 1) := by decide +kernel
theorem dX12_lifts_0 : decode cX12_lifts 0 = .ok (.aload_n 0, 1) := by decide +kernel
theorem dX12_lifts_1 : decode cX12_lifts 1 = .ok (.getfield 34, 3) := by decide +kernel
theorem dX12_lifts_4 : decode cX12_lifts 4 = .ok (.iload_n 1, 1) := by decide +kernel
theorem dX12_lifts_5 : decode cX12_lifts 5 = .ok (.iconst 1, 1) := by decide +kernel
theorem dX12_lifts_6 : decode cX12_lifts 6 = .ok (.bastore, 1) := by decide +kernel
theorem dX12_lifts_7 : decode cX12_lifts 7 = .ok (.aload_n 0, 1) := by decide +kernel
theorem dX12_lifts_8 : decode cX12_lifts 8 = .ok (.iload_n 1, 1) := by decide +kernel
theorem dX12_lifts_9 : decode cX12_lifts 9 = .ok (.invokevirtual 314, 3) := by decide +kernel
theorem dX12_lifts_12 : decode cX12_lifts 12 = .ok (.aload_n 0, 1) := by decide +kernel
theorem dX12_lifts_13 : decode cX12_lifts 13 = .ok (.getfield 71, 3) := by decide +kernel
theorem dX12_lifts_16 : decode cX12_lifts 16 = .ok (.iload_n 1, 1) := by decide +kernel
theorem dX12_lifts_17 : decode cX12_lifts 17 = .ok (.iconst 0, 1) := by decide +kernel
theorem dX12_lifts_18 : decode cX12_lifts 18 = .ok (.bastore, 1) := by decide +kernel
theorem dX12_lifts_19 : decode cX12_lifts 19 = .ok (.aload_n 0, 1) := by decide +kernel
theorem dX12_lifts_20 : decode cX12_lifts 20 = .ok (.getfield 62, 3) := by decide +kernel
theorem dX12_lifts_23 : decode cX12_lifts 23 = .ok (.iload_n 1, 1) := by decide +kernel
theorem dX12_lifts_24 : decode cX12_lifts 24 = .ok (.iaload, 1) := by decide +kernel
theorem dX12_lifts_25 : decode cX12_lifts 25 = .ok (.istore_n 2, 1) := by decide +kernel
theorem dX12_lifts_26 : decode cX12_lifts 26 = .ok (.aload_n 0, 1) := by decide +kernel
theorem dX12_lifts_27 : decode cX12_lifts 27 = .ok (.getfield 62, 3) := by decide +kernel
theorem dX12_lifts_30 : decode cX12_lifts 30 = .ok (.iload_n 1, 1) := by decide +kernel
theorem dX12_lifts_31 : decode cX12_lifts 31 = .ok (.iconst (-1), 1) := by decide +kernel
theorem dX12_lifts_32 : decode cX12_lifts 32 = .ok (.iastore, 1) := by decide +kernel
theorem dX12_lifts_33 : decode cX12_lifts 33 = .ok (.iload_n 2, 1) := by decide +kernel
theorem dX12_lifts_34 : decode cX12_lifts 34 = .ok (.iconst (-1), 1) := by decide +kernel
theorem dX12_lifts_35 : decode cX12_lifts 35 = .ok (.if_icmp .ne 21, 3) := by decide +kernel
theorem dX12_lifts_38 : decode cX12_lifts 38 = .ok (.aload_n 0, 1) := by decide +kernel
theorem dX12_lifts_39 : decode cX12_lifts 39 = .ok (.getfield 56, 3) := by decide +kernel
theorem dX12_lifts_42 : decode cX12_lifts 42 = .ok (.iload_n 1, 1) := by decide +kernel
theorem dX12_lifts_43 : decode cX12_lifts 43 = .ok (.aload_n 0, 1) := by decide +kernel
theorem dX12_lifts_44 : decode cX12_lifts 44 = .ok (.iload_n 1, 1) := by decide +kernel
theorem dX12_lifts_45 : decode cX12_lifts 45 = .ok (.bipush 8, 2) := by decide +kernel
theorem dX12_lifts_47 : decode cX12_lifts 47 = .ok (.idiv, 1) := by decide +kernel
theorem dX12_lifts_48 : decode cX12_lifts 48 = .ok (.iload_n 1, 1) := by decide +kernel
theorem dX12_lifts_49 : decode cX12_lifts 49 = .ok (.invokevirtual 317, 3) := by decide +kernel
theorem dX12_lifts_52 : decode cX12_lifts 52 = .ok (.iastore, 1) := by decide +kernel
theorem dX12_lifts_53 : decode cX12_lifts 53 = .ok (.goto 15, 3) := by decide +kernel
theorem dX12_lifts_56 : decode cX12_lifts 56 = .ok (.aload_n 0, 1) := by decide +kernel
theorem dX12_lifts_57 : decode cX12_lifts 57 = .ok (.getfield 56, 3) := by decide +kernel
theorem dX12_lifts_60 : decode cX12_lifts 60 = .ok (.iload_n 1, 1) := by decide +kernel
theorem dX12_lifts_61 : decode cX12_lifts 61 = .ok (.iload_n 2, 1) := by decide +kernel
theorem dX12_lifts_62 : decode cX12_lifts 62 = .ok (.iastore, 1) := by decide +kernel
theorem dX12_lifts_63 : decode cX12_lifts 63 = .ok (.aload_n 0, 1) := by decide +kernel
theorem dX12_lifts_64 : decode cX12_lifts 64 = .ok (.iload_n 2, 1) := by decide +kernel
theorem dX12_lifts_65 : decode cX12_lifts 65 = .ok (.invokevirtual 320, 3) := by decide +kernel
theorem dX12_lifts_68 : decode cX12_lifts 68 = .ok (.return_, 1) := by decide +kernel
theorem dX12_hangs_0 : decode cX12_hangs 0 = .ok (.aload_n 0, 1) := by decide +kernel
theorem dX12_hangs_1 : decode cX12_hangs 1 = .ok (.getfield 34, 3) := by decide +kernel
theorem dX12_hangs_4 : decode cX12_hangs 4 = .ok (.iload_n 1, 1) := by decide +kernel
theorem dX12_hangs_5 : decode cX12_hangs 5 = .ok (.iconst 0, 1) := by decide +kernel
theorem dX12_hangs_6 : decode cX12_hangs 6 = .ok (.bastore, 1) := by decide +kernel
theorem dX12_hangs_7 : decode cX12_hangs 7 = .ok (.aload_n 0, 1) := by decide +kernel
theorem dX12_hangs_8 : decode cX12_hangs 8 = .ok (.iload_n 1, 1) := by decide +kernel
theorem dX12_hangs_9 : decode cX12_hangs 9 = .ok (.invokevirtual 314, 3) := by decide +kernel
theorem dX12_hangs_12 : decode cX12_hangs 12 = .ok (.aload_n 0, 1) := by decide +kernel
theorem dX12_hangs_13 : decode cX12_hangs 13 = .ok (.getfield 74, 3) := by decide +kernel
theorem dX12_hangs_16 : decode cX12_hangs 16 = .ok (.iload_n 1, 1) := by decide +kernel
theorem dX12_hangs_17 : decode cX12_hangs 17 = .ok (.aload_n 0, 1) := by decide +kernel
theorem dX12_hangs_18 : decode cX12_hangs 18 = .ok (.getfield 285, 3) := by decide +kernel
theorem dX12_hangs_21 : decode cX12_hangs 21 = .ok (.iastore, 1) := by decide +kernel
theorem dX12_hangs_22 : decode cX12_hangs 22 = .ok (.aload_n 0, 1) := by decide +kernel
theorem dX12_hangs_23 : decode cX12_hangs 23 = .ok (.getfield 56, 3) := by decide +kernel
theorem dX12_hangs_26 : decode cX12_hangs 26 = .ok (.iload_n 1, 1) := by decide +kernel
theorem dX12_hangs_27 : decode cX12_hangs 27 = .ok (.iaload, 1) := by decide +kernel
theorem dX12_hangs_28 : decode cX12_hangs 28 = .ok (.istore_n 2, 1) := by decide +kernel
theorem dX12_hangs_29 : decode cX12_hangs 29 = .ok (.aload_n 0, 1) := by decide +kernel
theorem dX12_hangs_30 : decode cX12_hangs 30 = .ok (.getfield 56, 3) := by decide +kernel
theorem dX12_hangs_33 : decode cX12_hangs 33 = .ok (.iload_n 1, 1) := by decide +kernel
theorem dX12_hangs_34 : decode cX12_hangs 34 = .ok (.iconst (-1), 1) := by decide +kernel
theorem dX12_hangs_35 : decode cX12_hangs 35 = .ok (.iastore, 1) := by decide +kernel
theorem dX12_hangs_36 : decode cX12_hangs 36 = .ok (.iload_n 2, 1) := by decide +kernel
theorem dX12_hangs_37 : decode cX12_hangs 37 = .ok (.iconst (-1), 1) := by decide +kernel
theorem dX12_hangs_38 : decode cX12_hangs 38 = .ok (.if_icmp .eq 11, 3) := by decide +kernel
theorem dX12_hangs_41 : decode cX12_hangs 41 = .ok (.aload_n 0, 1) := by decide +kernel
theorem dX12_hangs_42 : decode cX12_hangs 42 = .ok (.iload_n 2, 1) := by decide +kernel
theorem dX12_hangs_43 : decode cX12_hangs 43 = .ok (.bipush 7, 2) := by decide +kernel
theorem dX12_hangs_45 : decode cX12_hangs 45 = .ok (.iload_n 1, 1) := by decide +kernel
theorem dX12_hangs_46 : decode cX12_hangs 46 = .ok (.invokevirtual 323, 3) := by decide +kernel
theorem dX12_hangs_49 : decode cX12_hangs 49 = .ok (.aload_n 0, 1) := by decide +kernel
theorem dX12_hangs_50 : decode cX12_hangs 50 = .ok (.getfield 59, 3) := by decide +kernel
theorem dX12_hangs_53 : decode cX12_hangs 53 = .ok (.iload_n 1, 1) := by decide +kernel
theorem dX12_hangs_54 : decode cX12_hangs 54 = .ok (.iaload, 1) := by decide +kernel
theorem dX12_hangs_55 : decode cX12_hangs 55 = .ok (.istore_n 3, 1) := by decide +kernel
theorem dX12_hangs_56 : decode cX12_hangs 56 = .ok (.aload_n 0, 1) := by decide +kernel
theorem dX12_hangs_57 : decode cX12_hangs 57 = .ok (.getfield 59, 3) := by decide +kernel
theorem dX12_hangs_60 : decode cX12_hangs 60 = .ok (.iload_n 1, 1) := by decide +kernel
theorem dX12_hangs_61 : decode cX12_hangs 61 = .ok (.iconst (-1), 1) := by decide +kernel
theorem dX12_hangs_62 : decode cX12_hangs 62 = .ok (.iastore, 1) := by decide +kernel
theorem dX12_hangs_63 : decode cX12_hangs 63 = .ok (.iload_n 3, 1) := by decide +kernel
theorem dX12_hangs_64 : decode cX12_hangs 64 = .ok (.iconst (-1), 1) := by decide +kernel
theorem dX12_hangs_65 : decode cX12_hangs 65 = .ok (.if_icmp .eq 11, 3) := by decide +kernel
theorem dX12_hangs_68 : decode cX12_hangs 68 = .ok (.aload_n 0, 1) := by decide +kernel
theorem dX12_hangs_69 : decode cX12_hangs 69 = .ok (.iload_n 3, 1) := by decide +kernel
theorem dX12_hangs_70 : decode cX12_hangs 70 = .ok (.bipush 7, 2) := by decide +kernel
theorem dX12_hangs_72 : decode cX12_hangs 72 = .ok (.iload_n 1, 1) := by decide +kernel
theorem dX12_hangs_73 : decode cX12_hangs 73 = .ok (.invokevirtual 323, 3) := by decide +kernel
theorem dX12_hangs_76 : decode cX12_hangs 76 = .ok (.aload_n 0, 1) := by decide +kernel
theorem dX12_hangs_77 : decode cX12_hangs 77 = .ok (.getfield 68, 3) := by decide +kernel
theorem dX12_hangs_80 : decode cX12_hangs 80 = .ok (.iload_n 1, 1) := by decide +kernel
theorem dX12_hangs_81 : decode cX12_hangs 81 = .ok (.iconst 0, 1) := by decide +kernel
theorem dX12_hangs_82 : decode cX12_hangs 82 = .ok (.iastore, 1) := by decide +kernel
theorem dX12_hangs_83 : decode cX12_hangs 83 = .ok (.return_, 1) := by decide +kernel
theorem dX12_keyComes_0 : decode cX12_keyComes 0 = .ok (.aload_n 0, 1) := by decide +kernel
theorem dX12_keyComes_1 : decode cX12_keyComes 1 = .ok (.getfield 56, 3) := by decide +kernel
theorem dX12_keyComes_4 : decode cX12_keyComes 4 = .ok (.iload_n 1, 1) := by decide +kernel
theorem dX12_keyComes_5 : decode cX12_keyComes 5 = .ok (.iaload, 1) := by decide +kernel
theorem dX12_keyComes_6 : decode cX12_keyComes 6 = .ok (.istore_n 3, 1) := by decide +kernel
theorem dX12_keyComes_7 : decode cX12_keyComes 7 = .ok (.iload_n 3, 1) := by decide +kernel
theorem dX12_keyComes_8 : decode cX12_keyComes 8 = .ok (.iconst (-1), 1) := by decide +kernel
theorem dX12_keyComes_9 : decode cX12_keyComes 9 = .ok (.if_icmp .eq 12, 3) := by decide +kernel
theorem dX12_keyComes_12 : decode cX12_keyComes 12 = .ok (.aload_n 0, 1) := by decide +kernel
theorem dX12_keyComes_13 : decode cX12_keyComes 13 = .ok (.getfield 95, 3) := by decide +kernel
theorem dX12_keyComes_16 : decode cX12_keyComes 16 = .ok (.iload_n 3, 1) := by decide +kernel
theorem dX12_keyComes_17 : decode cX12_keyComes 17 = .ok (.iaload, 1) := by decide +kernel
theorem dX12_keyComes_18 : decode cX12_keyComes 18 = .ok (.ifCond .eq 4, 3) := by decide +kernel
theorem dX12_keyComes_21 : decode cX12_keyComes 21 = .ok (.return_, 1) := by decide +kernel
theorem dX12_keyComes_22 : decode cX12_keyComes 22 = .ok (.aload_n 0, 1) := by decide +kernel
theorem dX12_keyComes_23 : decode cX12_keyComes 23 = .ok (.getfield 113, 3) := by decide +kernel
theorem dX12_keyComes_26 : decode cX12_keyComes 26 = .ok (.bipush 12, 2) := by decide +kernel
theorem dX12_keyComes_28 : decode cX12_keyComes 28 = .ok (.iload_n 3, 1) := by decide +kernel
theorem dX12_keyComes_29 : decode cX12_keyComes 29 = .ok (.imul, 1) := by decide +kernel
theorem dX12_keyComes_30 : decode cX12_keyComes 30 = .ok (.aload_n 0, 1) := by decide +kernel
theorem dX12_keyComes_31 : decode cX12_keyComes 31 = .ok (.getfield 116, 3) := by decide +kernel
theorem dX12_keyComes_34 : decode cX12_keyComes 34 = .ok (.iload_n 3, 1) := by decide +kernel
theorem dX12_keyComes_35 : decode cX12_keyComes 35 = .ok (.dup2, 1) := by decide +kernel
theorem dX12_keyComes_36 : decode cX12_keyComes 36 = .ok (.iaload, 1) := by decide +kernel
theorem dX12_keyComes_37 : decode cX12_keyComes 37 = .ok (.dup_x2, 1) := by decide +kernel
theorem dX12_keyComes_38 : decode cX12_keyComes 38 = .ok (.iconst 1, 1) := by decide +kernel
theorem dX12_keyComes_39 : decode cX12_keyComes 39 = .ok (.iadd, 1) := by decide +kernel
theorem dX12_keyComes_40 : decode cX12_keyComes 40 = .ok (.iastore, 1) := by decide +kernel
theorem dX12_keyComes_41 : decode cX12_keyComes 41 = .ok (.iadd, 1) := by decide +kernel
theorem dX12_keyComes_42 : decode cX12_keyComes 42 = .ok (.iload_n 2, 1) := by decide +kernel
theorem dX12_keyComes_43 : decode cX12_keyComes 43 = .ok (.iastore, 1) := by decide +kernel
theorem dX12_keyComes_44 : decode cX12_keyComes 44 = .ok (.aload_n 0, 1) := by decide +kernel
theorem dX12_keyComes_45 : decode cX12_keyComes 45 = .ok (.getfield 131, 3) := by decide +kernel
theorem dX12_keyComes_48 : decode cX12_keyComes 48 = .ok (.iload_n 3, 1) := by decide +kernel
theorem dX12_keyComes_49 : decode cX12_keyComes 49 = .ok (.aload_n 0, 1) := by decide +kernel
theorem dX12_keyComes_50 : decode cX12_keyComes 50 = .ok (.getfield 285, 3) := by decide +kernel
theorem dX12_keyComes_53 : decode cX12_keyComes 53 = .ok (.iastore, 1) := by decide +kernel
theorem dX12_keyComes_54 : decode cX12_keyComes 54 = .ok (.aload_n 0, 1) := by decide +kernel
theorem dX12_keyComes_55 : decode cX12_keyComes 55 = .ok (.iload_n 3, 1) := by decide +kernel
theorem dX12_keyComes_56 : decode cX12_keyComes 56 = .ok (.invokevirtual 327, 3) := by decide +kernel
theorem dX12_keyComes_59 : decode cX12_keyComes 59 = .ok (.istore 4, 2) := by decide +kernel
theorem dX12_keyComes_61 : decode cX12_keyComes 61 = .ok (.iload 4, 2) := by decide +kernel
theorem dX12_keyComes_63 : decode cX12_keyComes 63 = .ok (.bipush (-2), 2) := by decide +kernel
theorem dX12_keyComes_65 : decode cX12_keyComes 65 = .ok (.if_icmp .ne 13, 3) := by decide +kernel
theorem dX12_keyComes_68 : decode cX12_keyComes 68 = .ok (.aload_n 0, 1) := by decide +kernel
theorem dX12_keyComes_69 : decode cX12_keyComes 69 = .ok (.iload_n 3, 1) := by decide +kernel
theorem dX12_keyComes_70 : decode cX12_keyComes 70 = .ok (.iconst 1, 1) := by decide +kernel
theorem dX12_keyComes_71 : decode cX12_keyComes 71 = .ok (.iconst (-1), 1) := by decide +kernel
theorem dX12_keyComes_72 : decode cX12_keyComes 72 = .ok (.invokevirtual 323, 3) := by decide +kernel
theorem dX12_keyComes_75 : decode cX12_keyComes 75 = .ok (.goto 16, 3) := by decide +kernel
theorem dX12_keyComes_78 : decode cX12_keyComes 78 = .ok (.iload 4, 2) := by decide +kernel
theorem dX12_keyComes_80 : decode cX12_keyComes 80 = .ok (.iconst (-1), 1) := by decide +kernel
theorem dX12_keyComes_81 : decode cX12_keyComes 81 = .ok (.if_icmp .eq 10, 3) := by decide +kernel
theorem dX12_keyComes_84 : decode cX12_keyComes 84 = .ok (.aload_n 0, 1) := by decide +kernel
theorem dX12_keyComes_85 : decode cX12_keyComes 85 = .ok (.iload_n 3, 1) := by decide +kernel
theorem dX12_keyComes_86 : decode cX12_keyComes 86 = .ok (.iload 4, 2) := by decide +kernel
theorem dX12_keyComes_88 : decode cX12_keyComes 88 = .ok (.invokevirtual 331, 3) := by decide +kernel
theorem dX12_keyComes_91 : decode cX12_keyComes 91 = .ok (.return_, 1) := by decide +kernel
theorem dX12_flashes_0 : decode cX12_flashes 0 = .ok (.aload_n 0, 1) := by decide +kernel
theorem dX12_flashes_1 : decode cX12_flashes 1 = .ok (.getfield 59, 3) := by decide +kernel
