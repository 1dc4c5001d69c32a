theorem dX12_comes_234 : decode cX12_comes 234 = .ok (.getfield 158, 3) := by decide +kernel
theorem dX12_comes_237 : decode cX12_comes 237 = .ok (.iload_n 3, 1) := by decide +kernel
theorem dX12_comes_238 : decode cX12_comes 238 = .ok (.iaload, 1) := by decide +kernel
theorem dX12_comes_239 : decode cX12_comes 239 = .ok (.ifCond .eq 91, 3) := by decide +kernel
theorem dX12_comes_242 : decode cX12_comes 242 = .ok (.aload_n 0, 1) := by decide +kernel
theorem dX12_comes_243 : decode cX12_comes 243 = .ok (.getfield 197, 3) := by decide +kernel
theorem dX12_comes_246 : decode cX12_comes 246 = .ok (.iconst 2, 1) := by decide +kernel
theorem dX12_comes_247 : decode cX12_comes 247 = .ok (.iaload, 1) := by decide +kernel
theorem dX12_comes_248 : decode cX12_comes 248 = .ok (.istore 6, 2) := by decide +kernel
theorem dX12_comes_250 : decode cX12_comes 250 = .ok (.aload_n 0, 1) := by decide +kernel
theorem dX12_comes_251 : decode cX12_comes 251 = .ok (.getfield 197, 3) := by decide +kernel
theorem dX12_comes_254 : decode cX12_comes 254 = .ok (.iconst 0, 1) := by decide +kernel
theorem dX12_comes_255 : decode cX12_comes 255 = .ok (.iaload, 1) := by decide +kernel
theorem dX12_comes_256 : decode cX12_comes 256 = .ok (.istore 7, 2) := by decide +kernel
theorem dX12_comes_258 : decode cX12_comes 258 = .ok (.aload_n 0, 1) := by decide +kernel
theorem dX12_comes_259 : decode cX12_comes 259 = .ok (.iload 7, 2) := by decide +kernel
theorem dX12_comes_261 : decode cX12_comes 261 = .ok (.iconst 5, 1) := by decide +kernel
theorem dX12_comes_262 : decode cX12_comes 262 = .ok (.invokevirtual 352, 3) := by decide +kernel
theorem dX12_comes_265 : decode cX12_comes 265 = .ok (.aload_n 0, 1) := by decide +kernel
theorem dX12_comes_266 : decode cX12_comes 266 = .ok (.iload_n 1, 1) := by decide +kernel
theorem dX12_comes_267 : decode cX12_comes 267 = .ok (.invokevirtual 358, 3) := by decide +kernel
theorem dX12_comes_270 : decode cX12_comes 270 = .ok (.aload_n 0, 1) := by decide +kernel
theorem dX12_comes_271 : decode cX12_comes 271 = .ok (.getfield 158, 3) := by decide +kernel
theorem dX12_comes_274 : decode cX12_comes 274 = .ok (.iload_n 3, 1) := by decide +kernel
theorem dX12_comes_275 : decode cX12_comes 275 = .ok (.iaload, 1) := by decide +kernel
theorem dX12_comes_276 : decode cX12_comes 276 = .ok (.iconst 3, 1) := by decide +kernel
theorem dX12_comes_277 : decode cX12_comes 277 = .ok (.if_icmp .ne 6, 3) := by decide +kernel
theorem dX12_comes_280 : decode cX12_comes 280 = .ok (.goto 50, 3) := by decide +kernel
theorem dX12_comes_283 : decode cX12_comes 283 = .ok (.aload_n 0, 1) := by decide +kernel
theorem dX12_comes_284 : decode cX12_comes 284 = .ok (.getfield 158, 3) := by decide +kernel
theorem dX12_comes_287 : decode cX12_comes 287 = .ok (.iload_n 3, 1) := by decide +kernel
theorem dX12_comes_288 : decode cX12_comes 288 = .ok (.iconst 0, 1) := by decide +kernel
theorem dX12_comes_289 : decode cX12_comes 289 = .ok (.iastore, 1) := by decide +kernel
theorem dX12_comes_290 : decode cX12_comes 290 = .ok (.aload_n 0, 1) := by decide +kernel
theorem dX12_comes_291 : decode cX12_comes 291 = .ok (.getfield 161, 3) := by decide +kernel
theorem dX12_comes_294 : decode cX12_comes 294 = .ok (.iload_n 3, 1) := by decide +kernel
theorem dX12_comes_295 : decode cX12_comes 295 = .ok (.iconst (-1), 1) := by decide +kernel
theorem dX12_comes_296 : decode cX12_comes 296 = .ok (.iastore, 1) := by decide +kernel
theorem dX12_comes_297 : decode cX12_comes 297 = .ok (.aload_n 0, 1) := by decide +kernel
theorem dX12_comes_298 : decode cX12_comes 298 = .ok (.iload 4, 2) := by decide +kernel
theorem dX12_comes_300 : decode cX12_comes 300 = .ok (.iload 6, 2) := by decide +kernel
theorem dX12_comes_302 : decode cX12_comes 302 = .ok (.bipush 100, 2) := by decide +kernel
theorem dX12_comes_304 : decode cX12_comes 304 = .ok (.iload 7, 2) := by decide +kernel
theorem dX12_comes_306 : decode cX12_comes 306 = .ok (.iadd, 1) := by decide +kernel
theorem dX12_comes_307 : decode cX12_comes 307 = .ok (.invokevirtual 323, 3) := by decide +kernel
theorem dX12_comes_310 : decode cX12_comes 310 = .ok (.goto 20, 3) := by decide +kernel
theorem dX12_comes_313 : decode cX12_comes 313 = .ok (.aload_n 0, 1) := by decide +kernel
theorem dX12_comes_314 : decode cX12_comes 314 = .ok (.getfield 158, 3) := by decide +kernel
theorem dX12_comes_317 : decode cX12_comes 317 = .ok (.iload_n 3, 1) := by decide +kernel
theorem dX12_comes_318 : decode cX12_comes 318 = .ok (.iaload, 1) := by decide +kernel
theorem dX12_comes_319 : decode cX12_comes 319 = .ok (.iconst 3, 1) := by decide +kernel
theorem dX12_comes_320 : decode cX12_comes 320 = .ok (.if_icmp .ne 10, 3) := by decide +kernel
theorem dX12_comes_323 : decode cX12_comes 323 = .ok (.aload_n 0, 1) := by decide +kernel
theorem dX12_comes_324 : decode cX12_comes 324 = .ok (.getfield 158, 3) := by decide +kernel
theorem dX12_comes_327 : decode cX12_comes 327 = .ok (.iload_n 3, 1) := by decide +kernel
theorem dX12_comes_328 : decode cX12_comes 328 = .ok (.iconst 0, 1) := by decide +kernel
theorem dX12_comes_329 : decode cX12_comes 329 = .ok (.iastore, 1) := by decide +kernel
theorem dX12_comes_330 : decode cX12_comes 330 = .ok (.return_, 1) := by decide +kernel
theorem dX12_incoming_0 : decode cX12_incoming 0 = .ok (.bipush 16, 2) := by decide +kernel
theorem dX12_incoming_2 : decode cX12_incoming 2 = .ok (.iload_n 1, 1) := by decide +kernel
theorem dX12_incoming_3 : decode cX12_incoming 3 = .ok (.imul, 1) := by decide +kernel
theorem dX12_incoming_4 : decode cX12_incoming 4 = .ok (.aload_n 0, 1) := by decide +kernel
theorem dX12_incoming_5 : decode cX12_incoming 5 = .ok (.getfield 197, 3) := by decide +kernel
theorem dX12_incoming_8 : decode cX12_incoming 8 = .ok (.iconst 0, 1) := by decide +kernel
theorem dX12_incoming_9 : decode cX12_incoming 9 = .ok (.iaload, 1) := by decide +kernel
theorem dX12_incoming_10 : decode cX12_incoming 10 = .ok (.iadd, 1) := by decide +kernel
theorem dX12_incoming_11 : decode cX12_incoming 11 = .ok (.istore_n 2, 1) := by decide +kernel
theorem dX12_incoming_12 : decode cX12_incoming 12 = .ok (.aload_n 0, 1) := by decide +kernel
theorem dX12_incoming_13 : decode cX12_incoming 13 = .ok (.getfield 158, 3) := by decide +kernel
theorem dX12_incoming_16 : decode cX12_incoming 16 = .ok (.iload_n 2, 1) := by decide +kernel
theorem dX12_incoming_17 : decode cX12_incoming 17 = .ok (.iconst 2, 1) := by decide +kernel
theorem dX12_incoming_18 : decode cX12_incoming 18 = .ok (.iastore, 1) := by decide +kernel
theorem dX12_incoming_19 : decode cX12_incoming 19 = .ok (.aload_n 0, 1) := by decide +kernel
theorem dX12_incoming_20 : decode cX12_incoming 20 = .ok (.iload_n 1, 1) := by decide +kernel
theorem dX12_incoming_21 : decode cX12_incoming 21 = .ok (.bipush 100, 2) := by decide +kernel
theorem dX12_incoming_23 : decode cX12_incoming 23 = .ok (.aload_n 0, 1) := by decide +kernel
theorem dX12_incoming_24 : decode cX12_incoming 24 = .ok (.getfield 197, 3) := by decide +kernel
theorem dX12_incoming_27 : decode cX12_incoming 27 = .ok (.iconst 0, 1) := by decide +kernel
theorem dX12_incoming_28 : decode cX12_incoming 28 = .ok (.iaload, 1) := by decide +kernel
theorem dX12_incoming_29 : decode cX12_incoming 29 = .ok (.iadd, 1) := by decide +kernel
theorem dX12_incoming_30 : decode cX12_incoming 30 = .ok (.invokevirtual 317, 3) := by decide +kernel
theorem dX12_incoming_33 : decode cX12_incoming 33 = .ok (.istore_n 3, 1) := by decide +kernel
theorem dX12_incoming_34 : decode cX12_incoming 34 = .ok (.aload_n 0, 1) := by decide +kernel
theorem dX12_incoming_35 : decode cX12_incoming 35 = .ok (.getfield 161, 3) := by decide +kernel
theorem dX12_incoming_38 : decode cX12_incoming 38 = .ok (.iload_n 2, 1) := by decide +kernel
theorem dX12_incoming_39 : decode cX12_incoming 39 = .ok (.iload_n 3, 1) := by decide +kernel
theorem dX12_incoming_40 : decode cX12_incoming 40 = .ok (.iastore, 1) := by decide +kernel
theorem dX12_incoming_41 : decode cX12_incoming 41 = .ok (.aload_n 0, 1) := by decide +kernel
theorem dX12_incoming_42 : decode cX12_incoming 42 = .ok (.getfield 128, 3) := by decide +kernel
theorem dX12_incoming_45 : decode cX12_incoming 45 = .ok (.iload_n 3, 1) := by decide +kernel
theorem dX12_incoming_46 : decode cX12_incoming 46 = .ok (.aload_n 0, 1) := by decide +kernel
theorem dX12_incoming_47 : decode cX12_incoming 47 = .ok (.getfield 197, 3) := by decide +kernel
theorem dX12_incoming_50 : decode cX12_incoming 50 = .ok (.iconst 2, 1) := by decide +kernel
theorem dX12_incoming_51 : decode cX12_incoming 51 = .ok (.iaload, 1) := by decide +kernel
theorem dX12_incoming_52 : decode cX12_incoming 52 = .ok (.iastore, 1) := by decide +kernel
theorem dX12_incoming_53 : decode cX12_incoming 53 = .ok (.aload_n 0, 1) := by decide +kernel
theorem dX12_incoming_54 : decode cX12_incoming 54 = .ok (.getfield 116, 3) := by decide +kernel
theorem dX12_incoming_57 : decode cX12_incoming 57 = .ok (.iload_n 3, 1) := by decide +kernel
theorem dX12_incoming_58 : decode cX12_incoming 58 = .ok (.aload_n 0, 1) := by decide +kernel
theorem dX12_incoming_59 : decode cX12_incoming 59 = .ok (.getfield 197, 3) := by decide +kernel
theorem dX12_incoming_62 : decode cX12_incoming 62 = .ok (.iconst 3, 1) := by decide +kernel
theorem dX12_incoming_63 : decode cX12_incoming 63 = .ok (.iaload, 1) := by decide +kernel
theorem dX12_incoming_64 : decode cX12_incoming 64 = .ok (.iastore, 1) := by decide +kernel
theorem dX12_incoming_65 : decode cX12_incoming 65 = .ok (.iconst 0, 1) := by decide +kernel
theorem dX12_incoming_66 : decode cX12_incoming 66 = .ok (.istore 4, 2) := by decide +kernel
theorem dX12_incoming_68 : decode cX12_incoming 68 = .ok (.iload 4, 2) := by decide +kernel
theorem dX12_incoming_70 : decode cX12_incoming 70 = .ok (.aload_n 0, 1) := by decide +kernel
theorem dX12_incoming_71 : decode cX12_incoming 71 = .ok (.getfield 197, 3) := by decide +kernel
theorem dX12_incoming_74 : decode cX12_incoming 74 = .ok (.iconst 3, 1) := by decide +kernel
theorem dX12_incoming_75 : decode cX12_incoming 75 = .ok (.iaload, 1) := by decide +kernel
theorem dX12_incoming_76 : decode cX12_incoming 76 = .ok (.if_icmp .ge 30, 3) := by decide +kernel
theorem dX12_incoming_79 : decode cX12_incoming 79 = .ok (.aload_n 0, 1) := by decide +kernel
theorem dX12_incoming_80 : decode cX12_incoming 80 = .ok (.getfield 113, 3) := by decide +kernel
theorem dX12_incoming_83 : decode cX12_incoming 83 = .ok (.bipush 12, 2) := by decide +kernel
theorem dX12_incoming_85 : decode cX12_incoming 85 = .ok (.iload_n 3, 1) := by decide +kernel
theorem dX12_incoming_86 : decode cX12_incoming 86 = .ok (.imul, 1) := by decide +kernel
theorem dX12_incoming_87 : decode cX12_incoming 87 = .ok (.iload 4, 2) := by decide +kernel
theorem dX12_incoming_89 : decode cX12_incoming 89 = .ok (.iadd, 1) := by decide +kernel
theorem dX12_incoming_90 : decode cX12_incoming 90 = .ok (.aload_n 0, 1) := by decide +kernel
theorem dX12_incoming_91 : decode cX12_incoming 91 = .ok (.getfield 197, 3) := by decide +kernel
theorem dX12_incoming_94 : decode cX12_incoming 94 = .ok (.iconst 4, 1) := by decide +kernel
theorem dX12_incoming_95 : decode cX12_incoming 95 = .ok (.iload 4, 2) := by decide +kernel
theorem dX12_incoming_97 : decode cX12_incoming 97 = .ok (.iadd, 1) := by decide +kernel
theorem dX12_incoming_98 : decode cX12_incoming 98 = .ok (.iaload, 1) := by decide +kernel
theorem dX12_incoming_99 : decode cX12_incoming 99 = .ok (.iastore, 1) := by decide +kernel
theorem dX12_incoming_100 : decode cX12_incoming 100 = .ok (.iinc 4 1, 3) := by decide +kernel
theorem dX12_incoming_103 : decode cX12_incoming 103 = .ok (.goto (-35), 3) := by decide +kernel
theorem dX12_incoming_106 : decode cX12_incoming 106 = .ok (.aload_n 0, 1) := by decide +kernel
theorem dX12_incoming_107 : decode cX12_incoming 107 = .ok (.iload_n 3, 1) := by decide +kernel
theorem dX12_incoming_108 : decode cX12_incoming 108 = .ok (.invokevirtual 327, 3) := by decide +kernel
theorem dX12_incoming_111 : decode cX12_incoming 111 = .ok (.istore 4, 2) := by decide +kernel
theorem dX12_incoming_113 : decode cX12_incoming 113 = .ok (.iload 4, 2) := by decide +kernel
theorem dX12_incoming_115 : decode cX12_incoming 115 = .ok (.ifCond .ge 13, 3) := by decide +kernel
theorem dX12_incoming_118 : decode cX12_incoming 118 = .ok (.aload_n 0, 1) := by decide +kernel
theorem dX12_incoming_119 : decode cX12_incoming 119 = .ok (.iload_n 3, 1) := by decide +kernel
theorem dX12_incoming_120 : decode cX12_incoming 120 = .ok (.iconst 1, 1) := by decide +kernel
theorem dX12_incoming_121 : decode cX12_incoming 121 = .ok (.iconst (-1), 1) := by decide +kernel
theorem dX12_incoming_122 : decode cX12_incoming 122 = .ok (.invokevirtual 323, 3) := by decide +kernel
theorem dX12_incoming_125 : decode cX12_incoming 125 = .ok (.goto 10, 3) := by decide +kernel
theorem dX12_incoming_128 : decode cX12_incoming 128 = .ok (.aload_n 0, 1) := by decide +kernel
theorem dX12_incoming_129 : decode cX12_incoming 129 = .ok (.iload_n 3, 1) := by decide +kernel
theorem dX12_incoming_130 : decode cX12_incoming 130 = .ok (.iload 4, 2) := by decide +kernel
theorem dX12_incoming_132 : decode cX12_incoming 132 = .ok (.invokevirtual 331, 3) := by decide +kernel
theorem dX12_incoming_135 : decode cX12_incoming 135 = .ok (.return_, 1) := by decide +kernel
theorem dX12_spoil_0 : decode cX12_spoil 0 = .ok (.iload_n 1, 1) := by decide +kernel
theorem dX12_spoil_1 : decode cX12_spoil 1 = .ok (.i2l, 1) := by decide +kernel
theorem dX12_spoil_2 : decode cX12_spoil 2 = .ok (.lconst 0, 1) := by decide +kernel
theorem dX12_spoil_3 : decode cX12_spoil 3 = .ok (.lconst 1, 1) := by decide +kernel
theorem dX12_spoil_4 : decode cX12_spoil 4 = .ok (.invokestatic 268, 3) := by decide +kernel
theorem dX12_spoil_7 : decode cX12_spoil 7 = .ok (.ifCond .eq 37, 3) := by decide +kernel
theorem dX12_spoil_10 : decode cX12_spoil 10 = .ok (.iload_n 2, 1) := by decide +kernel
theorem dX12_spoil_11 : decode cX12_spoil 11 = .ok (.i2l, 1) := by decide +kernel
theorem dX12_spoil_12 : decode cX12_spoil 12 = .ok (.aload_n 0, 1) := by decide +kernel
theorem dX12_spoil_13 : decode cX12_spoil 13 = .ok (.getfield 285, 3) := by decide +kernel
theorem dX12_spoil_16 : decode cX12_spoil 16 = .ok (.i2l, 1) := by decide +kernel
theorem dX12_spoil_17 : decode cX12_spoil 17 = .ok (.aload_n 0, 1) := by decide +kernel
theorem dX12_spoil_18 : decode cX12_spoil 18 = .ok (.getfield 285, 3) := by decide +kernel
theorem dX12_spoil_21 : decode cX12_spoil 21 = .ok (.i2l, 1) := by decide +kernel
theorem dX12_spoil_22 : decode cX12_spoil 22 = .ok (.ldc2_w 418, 3) := by decide +kernel
theorem dX12_spoil_25 : decode cX12_spoil 25 = .ok (.ladd, 1) := by decide +kernel
theorem dX12_spoil_26 : decode cX12_spoil 26 = .ok (.invokestatic 268, 3) := by decide +kernel
theorem dX12_spoil_29 : decode cX12_spoil 29 = .ok (.ifCond .eq 15, 3) := by decide +kernel
theorem dX12_spoil_32 : decode cX12_spoil 32 = .ok (.iload_n 3, 1) := by decide +kernel
theorem dX12_spoil_33 : decode cX12_spoil 33 = .ok (.i2l, 1) := by decide +kernel
theorem dX12_spoil_34 : decode cX12_spoil 34 = .ok (.lconst 0, 1) := by decide +kernel
theorem dX12_spoil_35 : decode cX12_spoil 35 = .ok (.ldc2_w 420, 3) := by decide +kernel
theorem dX12_spoil_38 : decode cX12_spoil 38 = .ok (.invokestatic 268, 3) := by decide +kernel
theorem dX12_spoil_41 : decode cX12_spoil 41 = .ok (.ifCond .ne 6, 3) := by decide +kernel
theorem dX12_spoil_44 : decode cX12_spoil 44 = .ok (.bipush (-2), 2) := by decide +kernel
theorem dX12_spoil_46 : decode cX12_spoil 46 = .ok (.ireturn, 1) := by decide +kernel
theorem dX12_spoil_47 : decode cX12_spoil 47 = .ok (.iconst 0, 1) := by decide +kernel
theorem dX12_spoil_48 : decode cX12_spoil 48 = .ok (.istore 4, 2) := by decide +kernel
theorem dX12_spoil_50 : decode cX12_spoil 50 = .ok (.iconst 0, 1) := by decide +kernel
theorem dX12_spoil_51 : decode cX12_spoil 51 = .ok (.istore 5, 2) := by decide +kernel
theorem dX12_spoil_53 : decode cX12_spoil 53 = .ok (.iload 5, 2) := by decide +kernel
theorem dX12_spoil_55 : decode cX12_spoil 55 = .ok (.aload_n 0, 1) := by decide +kernel
theorem dX12_spoil_56 : decode cX12_spoil 56 = .ok (.getfield 422, 3) := by decide +kernel
theorem dX12_spoil_59 : decode cX12_spoil 59 = .ok (.if_icmp .ge 71, 3) := by decide +kernel
theorem dX12_spoil_62 : decode cX12_spoil 62 = .ok (.aload_n 0, 1) := by decide +kernel
theorem dX12_spoil_63 : decode cX12_spoil 63 = .ok (.getfield 219, 3) := by decide +kernel
theorem dX12_spoil_66 : decode cX12_spoil 66 = .ok (.iload 5, 2) := by decide +kernel
theorem dX12_spoil_68 : decode cX12_spoil 68 = .ok (.iaload, 1) := by decide +kernel
theorem dX12_spoil_69 : decode cX12_spoil 69 = .ok (.aload_n 0, 1) := by decide +kernel
theorem dX12_spoil_70 : decode cX12_spoil 70 = .ok (.getfield 285, 3) := by decide +kernel
theorem dX12_spoil_73 : decode cX12_spoil 73 = .ok (.if_icmp .ge 6, 3) := by decide +kernel
theorem dX12_spoil_76 : decode cX12_spoil 76 = .ok (.goto 48, 3) := by decide +kernel
theorem dX12_spoil_79 : decode cX12_spoil 79 = .ok (.aload_n 0, 1) := by decide +kernel
theorem dX12_spoil_80 : decode cX12_spoil 80 = .ok (.getfield 216, 3) := by decide +kernel
theorem dX12_spoil_83 : decode cX12_spoil 83 = .ok (.iload 4, 2) := by decide +kernel
theorem dX12_spoil_85 : decode cX12_spoil 85 = .ok (.aload_n 0, 1) := by decide +kernel
theorem dX12_spoil_86 : decode cX12_spoil 86 = .ok (.getfield 216, 3) := by decide +kernel
theorem dX12_spoil_89 : decode cX12_spoil 89 = .ok (.iload 5, 2) := by decide +kernel
theorem dX12_spoil_91 : decode cX12_spoil 91 = .ok (.iaload, 1) := by decide +kernel
theorem dX12_spoil_92 : decode cX12_spoil 92 = .ok (.iastore, 1) := by decide +kernel
theorem dX12_spoil_93 : decode cX12_spoil 93 = .ok (.aload_n 0, 1) := by decide +kernel
theorem dX12_spoil_94 : decode cX12_spoil 94 = .ok (.getfield 219, 3) := by decide +kernel
theorem dX12_spoil_97 : decode cX12_spoil 97 = .ok (.iload 4, 2) := by decide +kernel
theorem dX12_spoil_99 : decode cX12_spoil 99 = .ok (.aload_n 0, 1) := by decide +kernel
theorem dX12_spoil_100 : decode cX12_spoil 100 = .ok (.getfield 219, 3) := by decide +kernel
theorem dX12_spoil_103 : decode cX12_spoil 103 = .ok (.iload 5, 2) := by decide +kernel
theorem dX12_spoil_105 : decode cX12_spoil 105 = .ok (.iaload, 1) := by decide +kernel
theorem dX12_spoil_106 : decode cX12_spoil 106 = .ok (.iastore, 1) := by decide +kernel
theorem dX12_spoil_107 : decode cX12_spoil 107 = .ok (.aload_n 0, 1) := by decide +kernel
theorem dX12_spoil_108 : decode cX12_spoil 108 = .ok (.getfield 222, 3) := by decide +kernel
theorem dX12_spoil_111 : decode cX12_spoil 111 = .ok (.iload 4, 2) := by decide +kernel
theorem dX12_spoil_113 : decode cX12_spoil 113 = .ok (.iinc 4 1, 3) := by decide +kernel
theorem dX12_spoil_116 : decode cX12_spoil 116 = .ok (.aload_n 0, 1) := by decide +kernel
theorem dX12_spoil_117 : decode cX12_spoil 117 = .ok (.getfield 222, 3) := by decide +kernel
theorem dX12_spoil_120 : decode cX12_spoil 120 = .ok (.iload 5, 2) := by decide +kernel
theorem dX12_spoil_122 : decode cX12_spoil 122 = .ok (.iaload, 1) := by decide +kernel
theorem dX12_spoil_123 : decode cX12_spoil 123 = .ok (.iastore, 1) := by decide +kernel
theorem dX12_spoil_124 : decode cX12_spoil 124 = .ok (.iinc 5 1, 3) := by decide +kernel
theorem dX12_spoil_127 : decode cX12_spoil 127 = .ok (.goto (-74), 3) := by decide +kernel
theorem dX12_spoil_130 : decode cX12_spoil 130 = .ok (.aload_n 0, 1) := by decide +kernel
theorem dX12_spoil_131 : decode cX12_spoil 131 = .ok (.iload 4, 2) := by decide +kernel
theorem dX12_spoil_133 : decode cX12_spoil 133 = .ok (.putfield 422, 3) := by decide +kernel
theorem dX12_spoil_136 : decode cX12_spoil 136 = .ok (.aload_n 0, 1) := by decide +kernel
theorem dX12_spoil_137 : decode cX12_spoil 137 = .ok (.getfield 422, 3) := by decide +kernel
theorem dX12_spoil_140 : decode cX12_spoil 140 = .ok (.sipush 300, 3) := by decide +kernel
theorem dX12_spoil_143 : decode cX12_spoil 143 = .ok (.if_icmp .ne 6, 3) := by decide +kernel
theorem dX12_spoil_146 : decode cX12_spoil 146 = .ok (.bipush (-3), 2) := by decide +kernel
theorem dX12_spoil_148 : decode cX12_spoil 148 = .ok (.ireturn, 1) := by decide +kernel
theorem dX12_spoil_149 : decode cX12_spoil 149 = .ok (.aload_n 0, 1) := by decide +kernel
theorem dX12_spoil_150 : decode cX12_spoil 150 = .ok (.getfield 216, 3) := by decide +kernel
theorem dX12_spoil_153 : decode cX12_spoil 153 = .ok (.aload_n 0, 1) := by decide +kernel
theorem dX12_spoil_154 : decode cX12_spoil 154 = .ok (.getfield 422, 3) := by decide +kernel
theorem dX12_spoil_157 : decode cX12_spoil 157 = .ok (.iload_n 1, 1) := by decide +kernel
theorem dX12_spoil_158 : decode cX12_spoil 158 = .ok (.iastore, 1) := by decide +kernel
theorem dX12_spoil_159 : decode cX12_spoil 159 = .ok (.aload_n 0, 1) := by decide +kernel
theorem dX12_spoil_160 : decode cX12_spoil 160 = .ok (.getfield 219, 3) := by decide +kernel
theorem dX12_spoil_163 : decode cX12_spoil 163 = .ok (.aload_n 0, 1) := by decide +kernel
theorem dX12_spoil_164 : decode cX12_spoil 164 = .ok (.getfield 422, 3) := by decide +kernel
theorem dX12_spoil_167 : decode cX12_spoil 167 = .ok (.iload_n 2, 1) := by decide +kernel
theorem dX12_spoil_168 : decode cX12_spoil 168 = .ok (.iastore, 1) := by decide +kernel
theorem dX12_spoil_169 : decode cX12_spoil 169 = .ok (.aload_n 0, 1) := by decide +kernel
theorem dX12_spoil_170 : decode cX12_spoil 170 = .ok (.getfield 222, 3) := by decide +kernel
theorem dX12_spoil_173 : decode cX12_spoil 173 = .ok (.aload_n 0, 1) := by decide +kernel
theorem dX12_spoil_174 : decode cX12_spoil 174 = .ok (.dup, 1) := by decide +kernel
theorem dX12_spoil_175 : decode cX12_spoil 175 = .ok (.getfield 422, 3) := by decide +kernel
theorem dX12_spoil_178 : decode cX12_spoil 178 = .ok (.dup_x1, 1) := by decide +kernel
theorem dX12_spoil_179 : decode cX12_spoil 179 = .ok (.iconst 1, 1) := by decide +kernel
theorem dX12_spoil_180 : decode cX12_spoil 180 = .ok (.iadd, 1) := by decide +kernel
theorem dX12_spoil_181 : decode cX12_spoil 181 = .ok (.putfield 422, 3) := by decide +kernel
theorem dX12_spoil_184 : decode cX12_spoil 184 = .ok (.iload_n 3, 1) := by decide +kernel
theorem dX12_spoil_185 : decode cX12_spoil 185 = .ok (.iastore, 1) := by decide +kernel
theorem dX12_spoil_186 : decode cX12_spoil 186 = .ok (.aload_n 0, 1) := by decide +kernel
theorem dX12_spoil_187 : decode cX12_spoil 187 = .ok (.getfield 422, 3) := by decide +kernel
theorem dX12_spoil_190 : decode cX12_spoil 190 = .ok (.ireturn, 1) := by decide +kernel
theorem dX12_lose_0 : decode cX12_lose 0 = .ok (.iload_n 1, 1) := by decide +kernel
theorem dX12_lose_1 : decode cX12_lose 1 = .ok (.i2l, 1) := by decide +kernel
theorem dX12_lose_2 : decode cX12_lose 2 = .ok (.lconst 0, 1) := by decide +kernel
theorem dX12_lose_3 : decode cX12_lose 3 = .ok (.lconst 1, 1) := by decide +kernel
theorem dX12_lose_4 : decode cX12_lose 4 = .ok (.invokestatic 268, 3) := by decide +kernel
theorem dX12_lose_7 : decode cX12_lose 7 = .ok (.ifCond .eq 25, 3) := by decide +kernel
theorem dX12_lose_10 : decode cX12_lose 10 = .ok (.iload_n 2, 1) := by decide +kernel
theorem dX12_lose_11 : decode cX12_lose 11 = .ok (.i2l, 1) := by decide +kernel
theorem dX12_lose_12 : decode cX12_lose 12 = .ok (.aload_n 0, 1) := by decide +kernel
theorem dX12_lose_13 : decode cX12_lose 13 = .ok (.getfield 285, 3) := by decide +kernel
theorem dX12_lose_16 : decode cX12_lose 16 = .ok (.i2l, 1) := by decide +kernel
theorem dX12_lose_17 : decode cX12_lose 17 = .ok (.aload_n 0, 1) := by decide +kernel
theorem dX12_lose_18 : decode cX12_lose 18 = .ok (.getfield 285, 3) := by decide +kernel
theorem dX12_lose_21 : decode cX12_lose 21 = .ok (.i2l, 1) := by decide +kernel
theorem dX12_lose_22 : decode cX12_lose 22 = .ok (.ldc2_w 418, 3) := by decide +kernel
theorem dX12_lose_25 : decode cX12_lose 25 = .ok (.ladd, 1) := by decide +kernel
theorem dX12_lose_26 : decode cX12_lose 26 = .ok (.invokestatic 268, 3) := by decide +kernel
theorem dX12_lose_29 : decode cX12_lose 29 = .ok (.ifCond .ne 6, 3) := by decide +kernel
theorem dX12_lose_32 : decode cX12_lose 32 = .ok (.bipush (-2), 2) := by decide +kernel
theorem dX12_lose_34 : decode cX12_lose 34 = .ok (.ireturn, 1) := by decide +kernel
theorem dX12_lose_35 : decode cX12_lose 35 = .ok (.iconst 0, 1) := by decide +kernel
theorem dX12_lose_36 : decode cX12_lose 36 = .ok (.istore_n 3, 1) := by decide +kernel
theorem dX12_lose_37 : decode cX12_lose 37 = .ok (.iconst 0, 1) := by decide +kernel
theorem dX12_lose_38 : decode cX12_lose 38 = .ok (.istore 4, 2) := by decide +kernel
theorem dX12_lose_40 : decode cX12_lose 40 = .ok (.iload 4, 2) := by decide +kernel
theorem dX12_lose_42 : decode cX12_lose 42 = .ok (.aload_n 0, 1) := by decide +kernel
theorem dX12_lose_43 : decode cX12_lose 43 = .ok (.getfield 425, 3) := by decide +kernel
theorem dX12_lose_46 : decode cX12_lose 46 = .ok (.if_icmp .ge 55, 3) := by decide +kernel
theorem dX12_lose_49 : decode cX12_lose 49 = .ok (.aload_n 0, 1) := by decide +kernel
theorem dX12_lose_50 : decode cX12_lose 50 = .ok (.getfield 228, 3) := by decide +kernel
theorem dX12_lose_53 : decode cX12_lose 53 = .ok (.iload 4, 2) := by decide +kernel
theorem dX12_lose_55 : decode cX12_lose 55 = .ok (.iaload, 1) := by decide +kernel
theorem dX12_lose_56 : decode cX12_lose 56 = .ok (.aload_n 0, 1) := by decide +kernel
theorem dX12_lose_57 : decode cX12_lose 57 = .ok (.getfield 285, 3) := by decide +kernel
theorem dX12_lose_60 : decode cX12_lose 60 = .ok (.if_icmp .ge 6, 3) := by decide +kernel
theorem dX12_lose_63 : decode cX12_lose 63 = .ok (.goto 32, 3) := by decide +kernel
theorem dX12_lose_66 : decode cX12_lose 66 = .ok (.aload_n 0, 1) := by decide +kernel
theorem dX12_lose_67 : decode cX12_lose 67 = .ok (.getfield 225, 3) := by decide +kernel
theorem dX12_lose_70 : decode cX12_lose 70 = .ok (.iload_n 3, 1) := by decide +kernel
theorem dX12_lose_71 : decode cX12_lose 71 = .ok (.aload_n 0, 1) := by decide +kernel
theorem dX12_lose_72 : decode cX12_lose 72 = .ok (.getfield 225, 3) := by decide +kernel
theorem dX12_lose_75 : decode cX12_lose 75 = .ok (.iload 4, 2) := by decide +kernel
theorem dX12_lose_77 : decode cX12_lose 77 = .ok (.iaload, 1) := by decide +kernel
theorem dX12_lose_78 : decode cX12_lose 78 = .ok (.iastore, 1) := by decide +kernel
theorem dX12_lose_79 : decode cX12_lose 79 = .ok (.aload_n 0, 1) := by decide +kernel
theorem dX12_lose_80 : decode cX12_lose 80 = .ok (.getfield 228, 3) := by decide +kernel
theorem dX12_lose_83 : decode cX12_lose 83 = .ok (.iload_n 3, 1) := by decide +kernel
theorem dX12_lose_84 : decode cX12_lose 84 = .ok (.iinc 3 1, 3) := by decide +kernel
theorem dX12_lose_87 : decode cX12_lose 87 = .ok (.aload_n 0, 1) := by decide +kernel
theorem dX12_lose_88 : decode cX12_lose 88 = .ok (.getfield 228, 3) := by decide +kernel
theorem dX12_lose_91 : decode cX12_lose 91 = .ok (.iload 4, 2) := by decide +kernel
theorem dX12_lose_93 : decode cX12_lose 93 = .ok (.iaload, 1) := by decide +kernel
theorem dX12_lose_94 : decode cX12_lose 94 = .ok (.iastore, 1) := by decide +kernel
theorem dX12_lose_95 : decode cX12_lose 95 = .ok (.iinc 4 1, 3) := by decide +kernel
theorem dX12_lose_98 : decode cX12_lose 98 = .ok (.goto (-58), 3) := by decide +kernel
theorem dX12_lose_101 : decode cX12_lose 101 = .ok (.aload_n 0, 1) := by decide +kernel
theorem dX12_lose_102 : decode cX12_lose 102 = .ok (.iload_n 3, 1) := by decide +kernel
theorem dX12_lose_103 : decode cX12_lose 103 = .ok (.putfield 425, 3) := by decide +kernel
theorem dX12_lose_106 : decode cX12_lose 106 = .ok (.aload_n 0, 1) := by decide +kernel
theorem dX12_lose_107 : decode cX12_lose 107 = .ok (.getfield 425, 3) := by decide +kernel
theorem dX12_lose_110 : decode cX12_lose 110 = .ok (.sipush 300, 3) := by decide +kernel
theorem dX12_lose_113 : decode cX12_lose 113 = .ok (.if_icmp .ne 6, 3) := by decide +kernel
theorem dX12_lose_116 : decode cX12_lose 116 = .ok (.bipush (-3), 2) := by decide +kernel
theorem dX12_lose_118 : decode cX12_lose 118 = .ok (.ireturn, 1) := by decide +kernel
theorem dX12_lose_119 : decode cX12_lose 119 = .ok (.aload_n 0, 1) := by decide +kernel
theorem dX12_lose_120 : decode cX12_lose 120 = .ok (.getfield 225, 3) := by decide +kernel
theorem dX12_lose_123 : decode cX12_lose 123 = .ok (.aload_n 0, 1) := by decide +kernel
theorem dX12_lose_124 : decode cX12_lose 124 = .ok (.getfield 425, 3) := by decide +kernel
theorem dX12_lose_127 : decode cX12_lose 127 = .ok (.iload_n 1, 1) := by decide +kernel
theorem dX12_lose_128 : decode cX12_lose 128 = .ok (.iastore, 1) := by decide +kernel
theorem dX12_lose_129 : decode cX12_lose 129 = .ok (.aload_n 0, 1) := by decide +kernel
theorem dX12_lose_130 : decode cX12_lose 130 = .ok (.getfield 228, 3) := by decide +kernel
theorem dX12_lose_133 : decode cX12_lose 133 = .ok (.aload_n 0, 1) := by decide +kernel
theorem dX12_lose_134 : decode cX12_lose 134 = .ok (.dup, 1) := by decide +kernel
theorem dX12_lose_135 : decode cX12_lose 135 = .ok (.getfield 425, 3) := by decide +kernel
theorem dX12_lose_138 : decode cX12_lose 138 = .ok (.dup_x1, 1) := by decide +kernel
theorem dX12_lose_139 : decode cX12_lose 139 = .ok (.iconst 1, 1) := by decide +kernel
theorem dX12_lose_140 : decode cX12_lose 140 = .ok (.iadd, 1) := by decide +kernel
theorem dX12_lose_141 : decode cX12_lose 141 = .ok (.putfield 425, 3) := by decide +kernel
theorem dX12_lose_144 : decode cX12_lose 144 = .ok (.iload_n 2, 1) := by decide +kernel
theorem dX12_lose_145 : decode cX12_lose 145 = .ok (.iastore, 1) := by decide +kernel
theorem dX12_lose_146 : decode cX12_lose 146 = .ok (.aload_n 0, 1) := by decide +kernel
theorem dX12_lose_147 : decode cX12_lose 147 = .ok (.getfield 425, 3) := by decide +kernel
theorem dX12_lose_150 : decode cX12_lose 150 = .ok (.ireturn, 1) := by decide +kernel
theorem dX12_number_0 : decode cX12_number 0 = .ok (.iconst 0, 1) := by decide +kernel
theorem dX12_number_1 : decode cX12_number 1 = .ok (.istore_n 3, 1) := by decide +kernel
theorem dX12_number_2 : decode cX12_number 2 = .ok (.iload_n 3, 1) := by decide +kernel
theorem dX12_number_3 : decode cX12_number 3 = .ok (.iload_n 2, 1) := by decide +kernel
theorem dX12_number_4 : decode cX12_number 4 = .ok (.if_icmp .ge 30, 3) := by decide +kernel
theorem dX12_number_7 : decode cX12_number 7 = .ok (.aload_n 0, 1) := by decide +kernel
theorem dX12_number_8 : decode cX12_number 8 = .ok (.getfield 231, 3) := by decide +kernel
theorem dX12_number_11 : decode cX12_number 11 = .ok (.aload_n 0, 1) := by decide +kernel
theorem dX12_number_12 : decode cX12_number 12 = .ok (.dup, 1) := by decide +kernel
theorem dX12_number_13 : decode cX12_number 13 = .ok (.getfield 428, 3) := by decide +kernel
theorem dX12_number_16 : decode cX12_number 16 = .ok (.dup_x1, 1) := by decide +kernel
theorem dX12_number_17 : decode cX12_number 17 = .ok (.iconst 1, 1) := by decide +kernel
theorem dX12_number_18 : decode cX12_number 18 = .ok (.iadd, 1) := by decide +kernel
theorem dX12_number_19 : decode cX12_number 19 = .ok (.putfield 428, 3) := by decide +kernel
theorem dX12_number_22 : decode cX12_number 22 = .ok (.iload_n 1, 1) := by decide +kernel
theorem dX12_number_23 : decode cX12_number 23 = .ok (.iload_n 3, 1) := by decide +kernel
theorem dX12_number_24 : decode cX12_number 24 = .ok (.ishr, 1) := by decide +kernel
theorem dX12_number_25 : decode cX12_number 25 = .ok (.iconst 1, 1) := by decide +kernel
theorem dX12_number_26 : decode cX12_number 26 = .ok (.iand, 1) := by decide +kernel
theorem dX12_number_27 : decode cX12_number 27 = .ok (.iastore, 1) := by decide +kernel
theorem dX12_number_28 : decode cX12_number 28 = .ok (.iinc 3 1, 3) := by decide +kernel
theorem dX12_number_31 : decode cX12_number 31 = .ok (.goto (-29), 3) := by decide +kernel
theorem dX12_number_34 : decode cX12_number 34 = .ok (.return_, 1) := by decide +kernel
theorem dX12_check_0 : decode cX12_check 0 = .ok (.ldc_w 431, 3) := by decide +kernel
theorem dX12_check_3 : decode cX12_check 3 = .ok (.istore_n 3, 1) := by decide +kernel
theorem dX12_check_4 : decode cX12_check 4 = .ok (.iload_n 1, 1) := by decide +kernel
theorem dX12_check_5 : decode cX12_check 5 = .ok (.istore 4, 2) := by decide +kernel
theorem dX12_check_7 : decode cX12_check 7 = .ok (.iload 4, 2) := by decide +kernel
theorem dX12_check_9 : decode cX12_check 9 = .ok (.iload_n 2, 1) := by decide +kernel
theorem dX12_check_10 : decode cX12_check 10 = .ok (.if_icmp .ge 37, 3) := by decide +kernel
theorem dX12_check_13 : decode cX12_check 13 = .ok (.iload_n 3, 1) := by decide +kernel
theorem dX12_check_14 : decode cX12_check 14 = .ok (.aload_n 0, 1) := by decide +kernel
theorem dX12_check_15 : decode cX12_check 15 = .ok (.iload 4, 2) := by decide +kernel
theorem dX12_check_17 : decode cX12_check 17 = .ok (.iaload, 1) := by decide +kernel
theorem dX12_check_18 : decode cX12_check 18 = .ok (.ixor, 1) := by decide +kernel
theorem dX12_check_19 : decode cX12_check 19 = .ok (.istore 5, 2) := by decide +kernel
theorem dX12_check_21 : decode cX12_check 21 = .ok (.iload_n 3, 1) := by decide +kernel
theorem dX12_check_22 : decode cX12_check 22 = .ok (.iconst 1, 1) := by decide +kernel
theorem dX12_check_23 : decode cX12_check 23 = .ok (.ishr, 1) := by decide +kernel
theorem dX12_check_24 : decode cX12_check 24 = .ok (.iload 5, 2) := by decide +kernel
theorem dX12_check_26 : decode cX12_check 26 = .ok (.iconst 2, 1) := by decide +kernel
theorem dX12_check_27 : decode cX12_check 27 = .ok (.irem, 1) := by decide +kernel
theorem dX12_check_28 : decode cX12_check 28 = .ok (.iconst 1, 1) := by decide +kernel
theorem dX12_check_29 : decode cX12_check 29 = .ok (.if_icmp .ne 9, 3) := by decide +kernel
theorem dX12_check_32 : decode cX12_check 32 = .ok (.ldc_w 432, 3) := by decide +kernel
theorem dX12_check_35 : decode cX12_check 35 = .ok (.goto 4, 3) := by decide +kernel
theorem dX12_check_38 : decode cX12_check 38 = .ok (.iconst 0, 1) := by decide +kernel
theorem dX12_check_39 : decode cX12_check 39 = .ok (.ixor, 1) := by decide +kernel
theorem dX12_check_40 : decode cX12_check 40 = .ok (.istore_n 3, 1) := by decide +kernel
theorem dX12_check_41 : decode cX12_check 41 = .ok (.iinc 4 1, 3) := by decide +kernel
theorem dX12_check_44 : decode cX12_check 44 = .ok (.goto (-37), 3) := by decide +kernel
theorem dX12_check_47 : decode cX12_check 47 = .ok (.ldc_w 431, 3) := by decide +kernel
theorem dX12_check_50 : decode cX12_check 50 = .ok (.iload_n 3, 1) := by decide +kernel
theorem dX12_check_51 : decode cX12_check 51 = .ok (.isub, 1) := by decide +kernel
theorem dX12_check_52 : decode cX12_check 52 = .ok (.ireturn, 1) := by decide +kernel
theorem dX12_flag_0 : decode cX12_flag 0 = .ok (.iconst 0, 1) := by decide +kernel
theorem dX12_flag_1 : decode cX12_flag 1 = .ok (.istore_n 1, 1) := by decide +kernel
theorem dX12_flag_2 : decode cX12_flag 2 = .ok (.iload_n 1, 1) := by decide +kernel
theorem dX12_flag_3 : decode cX12_flag 3 = .ok (.bipush 8, 2) := by decide +kernel
theorem dX12_flag_5 : decode cX12_flag 5 = .ok (.if_icmp .ge 40, 3) := by decide +kernel
theorem dX12_flag_8 : decode cX12_flag 8 = .ok (.aload_n 0, 1) := by decide +kernel
theorem dX12_flag_9 : decode cX12_flag 9 = .ok (.getfield 200, 3) := by decide +kernel
theorem dX12_flag_12 : decode cX12_flag 12 = .ok (.aload_n 0, 1) := by decide +kernel
theorem dX12_flag_13 : decode cX12_flag 13 = .ok (.dup, 1) := by decide +kernel
theorem dX12_flag_14 : decode cX12_flag 14 = .ok (.getfield 433, 3) := by decide +kernel
theorem dX12_flag_17 : decode cX12_flag 17 = .ok (.dup_x1, 1) := by decide +kernel
theorem dX12_flag_18 : decode cX12_flag 18 = .ok (.iconst 1, 1) := by decide +kernel
theorem dX12_flag_19 : decode cX12_flag 19 = .ok (.iadd, 1) := by decide +kernel
theorem dX12_flag_20 : decode cX12_flag 20 = .ok (.putfield 433, 3) := by decide +kernel
theorem dX12_flag_23 : decode cX12_flag 23 = .ok (.iload_n 1, 1) := by decide +kernel
theorem dX12_flag_24 : decode cX12_flag 24 = .ok (.ifCond .eq 9, 3) := by decide +kernel
theorem dX12_flag_27 : decode cX12_flag 27 = .ok (.iload_n 1, 1) := by decide +kernel
theorem dX12_flag_28 : decode cX12_flag 28 = .ok (.bipush 7, 2) := by decide +kernel
theorem dX12_flag_30 : decode cX12_flag 30 = .ok (.if_icmp .ne 7, 3) := by decide +kernel
theorem dX12_flag_33 : decode cX12_flag 33 = .ok (.iconst 0, 1) := by decide +kernel
theorem dX12_flag_34 : decode cX12_flag 34 = .ok (.goto 4, 3) := by decide +kernel
theorem dX12_flag_37 : decode cX12_flag 37 = .ok (.iconst 1, 1) := by decide +kernel
theorem dX12_flag_38 : decode cX12_flag 38 = .ok (.iastore, 1) := by decide +kernel
theorem dX12_flag_39 : decode cX12_flag 39 = .ok (.iinc 1 1, 3) := by decide +kernel
theorem dX12_flag_42 : decode cX12_flag 42 = .ok (.goto (-40), 3) := by decide +kernel
theorem dX12_flag_45 : decode cX12_flag 45 = .ok (.return_, 1) := by decide +kernel
theorem dX12_sends_0 : decode cX12_sends 0 = .ok (.aload_n 0, 1) := by decide +kernel
theorem dX12_sends_1 : decode cX12_sends 1 = .ok (.getfield 179, 3) := by decide +kernel
theorem dX12_sends_4 : decode cX12_sends 4 = .ok (.iload_n 1, 1) := by decide +kernel
theorem dX12_sends_5 : decode cX12_sends 5 = .ok (.iaload, 1) := by decide +kernel
theorem dX12_sends_6 : decode cX12_sends 6 = .ok (.aload_n 0, 1) := by decide +kernel
theorem dX12_sends_7 : decode cX12_sends 7 = .ok (.getfield 173, 3) := by decide +kernel
theorem dX12_sends_10 : decode cX12_sends 10 = .ok (.iload_n 1, 1) := by decide +kernel
theorem dX12_sends_11 : decode cX12_sends 11 = .ok (.iaload, 1) := by decide +kernel
theorem dX12_sends_12 : decode cX12_sends 12 = .ok (.if_icmp .ge 25, 3) := by decide +kernel
theorem dX12_sends_15 : decode cX12_sends 15 = .ok (.aload_n 0, 1) := by decide +kernel
theorem dX12_sends_16 : decode cX12_sends 16 = .ok (.getfield 179, 3) := by decide +kernel
theorem dX12_sends_19 : decode cX12_sends 19 = .ok (.iload_n 1, 1) := by decide +kernel
theorem dX12_sends_20 : decode cX12_sends 20 = .ok (.iaload, 1) := by decide +kernel
theorem dX12_sends_21 : decode cX12_sends 21 = .ok (.aload_n 0, 1) := by decide +kernel
theorem dX12_sends_22 : decode cX12_sends 22 = .ok (.getfield 176, 3) := by decide +kernel
theorem dX12_sends_25 : decode cX12_sends 25 = .ok (.iload_n 1, 1) := by decide +kernel
theorem dX12_sends_26 : decode cX12_sends 26 = .ok (.iaload, 1) := by decide +kernel
theorem dX12_sends_27 : decode cX12_sends 27 = .ok (.bipush 100, 2) := by decide +kernel
theorem dX12_sends_29 : decode cX12_sends 29 = .ok (.iadd, 1) := by decide +kernel
theorem dX12_sends_30 : decode cX12_sends 30 = .ok (.if_icmp .ge 7, 3) := by decide +kernel
theorem dX12_sends_33 : decode cX12_sends 33 = .ok (.iconst 1, 1) := by decide +kernel
theorem dX12_sends_34 : decode cX12_sends 34 = .ok (.goto 4, 3) := by decide +kernel
theorem dX12_sends_37 : decode cX12_sends 37 = .ok (.iconst 0, 1) := by decide +kernel
theorem dX12_sends_38 : decode cX12_sends 38 = .ok (.istore_n 2, 1) := by decide +kernel
theorem dX12_sends_39 : decode cX12_sends 39 = .ok (.sipush 256, 3) := by decide +kernel
theorem dX12_sends_42 : decode cX12_sends 42 = .ok (.iload_n 1, 1) := by decide +kernel
theorem dX12_sends_43 : decode cX12_sends 43 = .ok (.imul, 1) := by decide +kernel
theorem dX12_sends_44 : decode cX12_sends 44 = .ok (.aload_n 0, 1) := by decide +kernel
theorem dX12_sends_45 : decode cX12_sends 45 = .ok (.getfield 179, 3) := by decide +kernel
theorem dX12_sends_48 : decode cX12_sends 48 = .ok (.iload_n 1, 1) := by decide +kernel
theorem dX12_sends_49 : decode cX12_sends 49 = .ok (.iaload, 1) := by decide +kernel
theorem dX12_sends_50 : decode cX12_sends 50 = .ok (.sipush 256, 3) := by decide +kernel
theorem dX12_sends_53 : decode cX12_sends 53 = .ok (.irem, 1) := by decide +kernel
theorem dX12_sends_54 : decode cX12_sends 54 = .ok (.iadd, 1) := by decide +kernel
theorem dX12_sends_55 : decode cX12_sends 55 = .ok (.istore_n 3, 1) := by decide +kernel
theorem dX12_sends_56 : decode cX12_sends 56 = .ok (.iload_n 2, 1) := by decide +kernel
theorem dX12_sends_57 : decode cX12_sends 57 = .ok (.ifCond .eq 49, 3) := by decide +kernel
theorem dX12_sends_60 : decode cX12_sends 60 = .ok (.aload_n 0, 1) := by decide +kernel
theorem dX12_sends_61 : decode cX12_sends 61 = .ok (.getfield 179, 3) := by decide +kernel
theorem dX12_sends_64 : decode cX12_sends 64 = .ok (.iload_n 1, 1) := by decide +kernel
theorem dX12_sends_65 : decode cX12_sends 65 = .ok (.dup2, 1) := by decide +kernel
theorem dX12_sends_66 : decode cX12_sends 66 = .ok (.iaload, 1) := by decide +kernel
theorem dX12_sends_67 : decode cX12_sends 67 = .ok (.iconst 1, 1) := by decide +kernel
theorem dX12_sends_68 : decode cX12_sends 68 = .ok (.iadd, 1) := by decide +kernel
theorem dX12_sends_69 : decode cX12_sends 69 = .ok (.iastore, 1) := by decide +kernel
theorem dX12_sends_70 : decode cX12_sends 70 = .ok (.aload_n 0, 1) := by decide +kernel
theorem dX12_sends_71 : decode cX12_sends 71 = .ok (.getfield 182, 3) := by decide +kernel
theorem dX12_sends_74 : decode cX12_sends 74 = .ok (.iload_n 1, 1) := by decide +kernel
theorem dX12_sends_75 : decode cX12_sends 75 = .ok (.aload_n 0, 1) := by decide +kernel
theorem dX12_sends_76 : decode cX12_sends 76 = .ok (.getfield 179, 3) := by decide +kernel
theorem dX12_sends_79 : decode cX12_sends 79 = .ok (.iload_n 1, 1) := by decide +kernel
theorem dX12_sends_80 : decode cX12_sends 80 = .ok (.iaload, 1) := by decide +kernel
theorem dX12_sends_81 : decode cX12_sends 81 = .ok (.aload_n 0, 1) := by decide +kernel
theorem dX12_sends_82 : decode cX12_sends 82 = .ok (.getfield 182, 3) := by decide +kernel
theorem dX12_sends_85 : decode cX12_sends 85 = .ok (.iload_n 1, 1) := by decide +kernel
theorem dX12_sends_86 : decode cX12_sends 86 = .ok (.iaload, 1) := by decide +kernel
theorem dX12_sends_87 : decode cX12_sends 87 = .ok (.if_icmp .le 12, 3) := by decide +kernel
theorem dX12_sends_90 : decode cX12_sends 90 = .ok (.aload_n 0, 1) := by decide +kernel
theorem dX12_sends_91 : decode cX12_sends 91 = .ok (.getfield 179, 3) := by decide +kernel
theorem dX12_sends_94 : decode cX12_sends 94 = .ok (.iload_n 1, 1) := by decide +kernel
theorem dX12_sends_95 : decode cX12_sends 95 = .ok (.iaload, 1) := by decide +kernel
theorem dX12_sends_96 : decode cX12_sends 96 = .ok (.goto 9, 3) := by decide +kernel
theorem dX12_sends_99 : decode cX12_sends 99 = .ok (.aload_n 0, 1) := by decide +kernel
theorem dX12_sends_100 : decode cX12_sends 100 = .ok (.getfield 182, 3) := by decide +kernel
theorem dX12_sends_103 : decode cX12_sends 103 = .ok (.iload_n 1, 1) := by decide +kernel
theorem dX12_sends_104 : decode cX12_sends 104 = .ok (.iaload, 1) := by decide +kernel
theorem dX12_sends_105 : decode cX12_sends 105 = .ok (.iastore, 1) := by decide +kernel
theorem dX12_sends_106 : decode cX12_sends 106 = .ok (.aload_n 0, 1) := by decide +kernel
theorem dX12_sends_107 : decode cX12_sends 107 = .ok (.iconst 0, 1) := by decide +kernel
theorem dX12_sends_108 : decode cX12_sends 108 = .ok (.putfield 428, 3) := by decide +kernel
theorem dX12_sends_111 : decode cX12_sends 111 = .ok (.aload_n 0, 1) := by decide +kernel
theorem dX12_sends_112 : decode cX12_sends 112 = .ok (.aload_n 0, 1) := by decide +kernel
theorem dX12_sends_113 : decode cX12_sends 113 = .ok (.getfield 185, 3) := by decide +kernel
theorem dX12_sends_116 : decode cX12_sends 116 = .ok (.iload_n 1, 1) := by decide +kernel
theorem dX12_sends_117 : decode cX12_sends 117 = .ok (.iaload, 1) := by decide +kernel
theorem dX12_sends_118 : decode cX12_sends 118 = .ok (.sipush 128, 3) := by decide +kernel
theorem dX12_sends_121 : decode cX12_sends 121 = .ok (.irem, 1) := by decide +kernel
theorem dX12_sends_122 : decode cX12_sends 122 = .ok (.bipush 7, 2) := by decide +kernel
theorem dX12_sends_124 : decode cX12_sends 124 = .ok (.invokevirtual 436, 3) := by decide +kernel
theorem dX12_sends_127 : decode cX12_sends 127 = .ok (.aload_n 0, 1) := by decide +kernel
theorem dX12_sends_128 : decode cX12_sends 128 = .ok (.aload_n 0, 1) := by decide +kernel
theorem dX12_sends_129 : decode cX12_sends 129 = .ok (.getfield 191, 3) := by decide +kernel
theorem dX12_sends_132 : decode cX12_sends 132 = .ok (.iload_n 1, 1) := by decide +kernel
theorem dX12_sends_133 : decode cX12_sends 133 = .ok (.iaload, 1) := by decide +kernel
theorem dX12_sends_134 : decode cX12_sends 134 = .ok (.iconst 1, 1) := by decide +kernel
theorem dX12_sends_135 : decode cX12_sends 135 = .ok (.invokevirtual 436, 3) := by decide +kernel
theorem dX12_sends_138 : decode cX12_sends 138 = .ok (.aload_n 0, 1) := by decide +kernel
theorem dX12_sends_139 : decode cX12_sends 139 = .ok (.aload_n 0, 1) := by decide +kernel
theorem dX12_sends_140 : decode cX12_sends 140 = .ok (.getfield 179, 3) := by decide +kernel
theorem dX12_sends_143 : decode cX12_sends 143 = .ok (.iload_n 1, 1) := by decide +kernel
theorem dX12_sends_144 : decode cX12_sends 144 = .ok (.iaload, 1) := by decide +kernel
theorem dX12_sends_145 : decode cX12_sends 145 = .ok (.sipush 128, 3) := by decide +kernel
theorem dX12_sends_148 : decode cX12_sends 148 = .ok (.irem, 1) := by decide +kernel
theorem dX12_sends_149 : decode cX12_sends 149 = .ok (.bipush 7, 2) := by decide +kernel
theorem dX12_sends_151 : decode cX12_sends 151 = .ok (.invokevirtual 436, 3) := by decide +kernel
theorem dX12_sends_154 : decode cX12_sends 154 = .ok (.aload_n 0, 1) := by decide +kernel
theorem dX12_sends_155 : decode cX12_sends 155 = .ok (.aload_n 0, 1) := by decide +kernel
theorem dX12_sends_156 : decode cX12_sends 156 = .ok (.getfield 188, 3) := by decide +kernel
theorem dX12_sends_159 : decode cX12_sends 159 = .ok (.iload_n 1, 1) := by decide +kernel
theorem dX12_sends_160 : decode cX12_sends 160 = .ok (.iaload, 1) := by decide +kernel
theorem dX12_sends_161 : decode cX12_sends 161 = .ok (.iconst 1, 1) := by decide +kernel
theorem dX12_sends_162 : decode cX12_sends 162 = .ok (.invokevirtual 436, 3) := by decide +kernel
theorem dX12_sends_165 : decode cX12_sends 165 = .ok (.aload_n 0, 1) := by decide +kernel
theorem dX12_sends_166 : decode cX12_sends 166 = .ok (.iload_n 2, 1) := by decide +kernel
theorem dX12_sends_167 : decode cX12_sends 167 = .ok (.ifCond .eq 12, 3) := by decide +kernel
theorem dX12_sends_170 : decode cX12_sends 170 = .ok (.aload_n 0, 1) := by decide +kernel
theorem dX12_sends_171 : decode cX12_sends 171 = .ok (.getfield 170, 3) := by decide +kernel
theorem dX12_sends_174 : decode cX12_sends 174 = .ok (.iload_n 3, 1) := by decide +kernel
theorem dX12_sends_175 : decode cX12_sends 175 = .ok (.iaload, 1) := by decide +kernel
theorem dX12_sends_176 : decode cX12_sends 176 = .ok (.goto 4, 3) := by decide +kernel
theorem dX12_sends_179 : decode cX12_sends 179 = .ok (.iconst 0, 1) := by decide +kernel
theorem dX12_sends_180 : decode cX12_sends 180 = .ok (.bipush 8, 2) := by decide +kernel
theorem dX12_sends_182 : decode cX12_sends 182 = .ok (.invokevirtual 436, 3) := by decide +kernel
theorem dX12_sends_185 : decode cX12_sends 185 = .ok (.iconst 0, 1) := by decide +kernel
theorem dX12_sends_186 : decode cX12_sends 186 = .ok (.istore 4, 2) := by decide +kernel
theorem dX12_sends_188 : decode cX12_sends 188 = .ok (.iload_n 2, 1) := by decide +kernel
theorem dX12_sends_189 : decode cX12_sends 189 = .ok (.ifCond .eq 38, 3) := by decide +kernel
theorem dX12_sends_192 : decode cX12_sends 192 = .ok (.iload 4, 2) := by decide +kernel
theorem dX12_sends_194 : decode cX12_sends 194 = .ok (.aload_n 0, 1) := by decide +kernel
theorem dX12_sends_195 : decode cX12_sends 195 = .ok (.getfield 170, 3) := by decide +kernel
theorem dX12_sends_198 : decode cX12_sends 198 = .ok (.iload_n 3, 1) := by decide +kernel
theorem dX12_sends_199 : decode cX12_sends 199 = .ok (.iaload, 1) := by decide +kernel
theorem dX12_sends_200 : decode cX12_sends 200 = .ok (.if_icmp .ge 27, 3) := by decide +kernel
theorem dX12_sends_203 : decode cX12_sends 203 = .ok (.aload_n 0, 1) := by decide +kernel
theorem dX12_sends_204 : decode cX12_sends 204 = .ok (.aload_n 0, 1) := by decide +kernel
theorem dX12_sends_205 : decode cX12_sends 205 = .ok (.getfield 167, 3) := by decide +kernel
theorem dX12_sends_208 : decode cX12_sends 208 = .ok (.bipush 16, 2) := by decide +kernel
theorem dX12_sends_210 : decode cX12_sends 210 = .ok (.iload_n 3, 1) := by decide +kernel
theorem dX12_sends_211 : decode cX12_sends 211 = .ok (.imul, 1) := by decide +kernel
theorem dX12_sends_212 : decode cX12_sends 212 = .ok (.iload 4, 2) := by decide +kernel
theorem dX12_sends_214 : decode cX12_sends 214 = .ok (.iadd, 1) := by decide +kernel
theorem dX12_sends_215 : decode cX12_sends 215 = .ok (.iaload, 1) := by decide +kernel
theorem dX12_sends_216 : decode cX12_sends 216 = .ok (.bipush 8, 2) := by decide +kernel
theorem dX12_sends_218 : decode cX12_sends 218 = .ok (.invokevirtual 436, 3) := by decide +kernel
theorem dX12_sends_221 : decode cX12_sends 221 = .ok (.iinc 4 1, 3) := by decide +kernel
theorem dX12_sends_224 : decode cX12_sends 224 = .ok (.goto (-36), 3) := by decide +kernel
theorem dX12_sends_227 : decode cX12_sends 227 = .ok (.aload_n 0, 1) := by decide +kernel
theorem dX12_sends_228 : decode cX12_sends 228 = .ok (.aload_n 0, 1) := by decide +kernel
theorem dX12_sends_229 : decode cX12_sends 229 = .ok (.getfield 231, 3) := by decide +kernel
theorem dX12_sends_232 : decode cX12_sends 232 = .ok (.iconst 0, 1) := by decide +kernel
theorem dX12_sends_233 : decode cX12_sends 233 = .ok (.aload_n 0, 1) := by decide +kernel
theorem dX12_sends_234 : decode cX12_sends 234 = .ok (.getfield 428, 3) := by decide +kernel
theorem dX12_sends_237 : decode cX12_sends 237 = .ok (.invokestatic 439, 3) := by decide +kernel
theorem dX12_sends_240 : decode cX12_sends 240 = .ok (.bipush 16, 2) := by decide +kernel
theorem dX12_sends_242 : decode cX12_sends 242 = .ok (.invokevirtual 436, 3) := by decide +kernel
theorem dX12_sends_245 : decode cX12_sends 245 = .ok (.aload_n 0, 1) := by decide +kernel
theorem dX12_sends_246 : decode cX12_sends 246 = .ok (.iconst 0, 1) := by decide +kernel
theorem dX12_sends_247 : decode cX12_sends 247 = .ok (.putfield 433, 3) := by decide +kernel
theorem dX12_sends_250 : decode cX12_sends 250 = .ok (.aload_n 0, 1) := by decide +kernel
theorem dX12_sends_251 : decode cX12_sends 251 = .ok (.invokevirtual 443, 3) := by decide +kernel
theorem dX12_sends_254 : decode cX12_sends 254 = .ok (.iconst 0, 1) := by decide +kernel
theorem dX12_sends_255 : decode cX12_sends 255 = .ok (.istore 4, 2) := by decide +kernel
theorem dX12_sends_257 : decode cX12_sends 257 = .ok (.iconst 0, 1) := by decide +kernel
theorem dX12_sends_258 : decode cX12_sends 258 = .ok (.istore 5, 2) := by decide +kernel
theorem dX12_sends_260 : decode cX12_sends 260 = .ok (.iload 5, 2) := by decide +kernel
theorem dX12_sends_262 : decode cX12_sends 262 = .ok (.aload_n 0, 1) := by decide +kernel
theorem dX12_sends_263 : decode cX12_sends 263 = .ok (.getfield 428, 3) := by decide +kernel
theorem dX12_sends_266 : decode cX12_sends 266 = .ok (.if_icmp .ge 79, 3) := by decide +kernel
theorem dX12_sends_269 : decode cX12_sends 269 = .ok (.aload_n 0, 1) := by decide +kernel
theorem dX12_sends_270 : decode cX12_sends 270 = .ok (.getfield 200, 3) := by decide +kernel
theorem dX12_sends_273 : decode cX12_sends 273 = .ok (.aload_n 0, 1) := by decide +kernel
theorem dX12_sends_274 : decode cX12_sends 274 = .ok (.dup, 1) := by decide +kernel
theorem dX12_sends_275 : decode cX12_sends 275 = .ok (.getfield 433, 3) := by decide +kernel
theorem dX12_sends_278 : decode cX12_sends 278 = .ok (.dup_x1, 1) := by decide +kernel
theorem dX12_sends_279 : decode cX12_sends 279 = .ok (.iconst 1, 1) := by decide +kernel
theorem dX12_sends_280 : decode cX12_sends 280 = .ok (.iadd, 1) := by decide +kernel
theorem dX12_sends_281 : decode cX12_sends 281 = .ok (.putfield 433, 3) := by decide +kernel
theorem dX12_sends_284 : decode cX12_sends 284 = .ok (.aload_n 0, 1) := by decide +kernel
theorem dX12_sends_285 : decode cX12_sends 285 = .ok (.getfield 231, 3) := by decide +kernel
theorem dX12_sends_288 : decode cX12_sends 288 = .ok (.iload 5, 2) := by decide +kernel
theorem dX12_sends_290 : decode cX12_sends 290 = .ok (.iaload, 1) := by decide +kernel
theorem dX12_sends_291 : decode cX12_sends 291 = .ok (.iastore, 1) := by decide +kernel
theorem dX12_sends_292 : decode cX12_sends 292 = .ok (.aload_n 0, 1) := by decide +kernel
theorem dX12_sends_293 : decode cX12_sends 293 = .ok (.getfield 231, 3) := by decide +kernel
theorem dX12_sends_296 : decode cX12_sends 296 = .ok (.iload 5, 2) := by decide +kernel
theorem dX12_sends_298 : decode cX12_sends 298 = .ok (.iaload, 1) := by decide +kernel
theorem dX12_sends_299 : decode cX12_sends 299 = .ok (.iconst 1, 1) := by decide +kernel
theorem dX12_sends_300 : decode cX12_sends 300 = .ok (.if_icmp .ne 10, 3) := by decide +kernel
theorem dX12_sends_303 : decode cX12_sends 303 = .ok (.iload 4, 2) := by decide +kernel
theorem dX12_sends_305 : decode cX12_sends 305 = .ok (.iconst 1, 1) := by decide +kernel
theorem dX12_sends_306 : decode cX12_sends 306 = .ok (.iadd, 1) := by decide +kernel
theorem dX12_sends_307 : decode cX12_sends 307 = .ok (.goto 4, 3) := by decide +kernel
theorem dX12_sends_310 : decode cX12_sends 310 = .ok (.iconst 0, 1) := by decide +kernel
theorem dX12_sends_311 : decode cX12_sends 311 = .ok (.istore 4, 2) := by decide +kernel
theorem dX12_sends_313 : decode cX12_sends 313 = .ok (.iload 4, 2) := by decide +kernel
theorem dX12_sends_315 : decode cX12_sends 315 = .ok (.iconst 5, 1) := by decide +kernel
theorem dX12_sends_316 : decode cX12_sends 316 = .ok (.if_icmp .ne 23, 3) := by decide +kernel
theorem dX12_sends_319 : decode cX12_sends 319 = .ok (.aload_n 0, 1) := by decide +kernel
theorem dX12_sends_320 : decode cX12_sends 320 = .ok (.getfield 200, 3) := by decide +kernel
theorem dX12_sends_323 : decode cX12_sends 323 = .ok (.aload_n 0, 1) := by decide +kernel
theorem dX12_sends_324 : decode cX12_sends 324 = .ok (.dup, 1) := by decide +kernel
theorem dX12_sends_325 : decode cX12_sends 325 = .ok (.getfield 433, 3) := by decide +kernel
theorem dX12_sends_328 : decode cX12_sends 328 = .ok (.dup_x1, 1) := by decide +kernel
theorem dX12_sends_329 : decode cX12_sends 329 = .ok (.iconst 1, 1) := by decide +kernel
theorem dX12_sends_330 : decode cX12_sends 330 = .ok (.iadd, 1) := by decide +kernel
theorem dX12_sends_331 : decode cX12_sends 331 = .ok (.putfield 433, 3) := by decide +kernel
theorem dX12_sends_334 : decode cX12_sends 334 = .ok (.iconst 0, 1) := by decide +kernel
theorem dX12_sends_335 : decode cX12_sends 335 = .ok (.iastore, 1) := by decide +kernel
theorem dX12_sends_336 : decode cX12_sends 336 = .ok (.iconst 0, 1) := by decide +kernel
theorem dX12_sends_337 : decode cX12_sends 337 = .ok (.istore 4, 2) := by decide +kernel
theorem dX12_sends_339 : decode cX12_sends 339 = .ok (.iinc 5 1, 3) := by decide +kernel
theorem dX12_sends_342 : decode cX12_sends 342 = .ok (.goto (-82), 3) := by decide +kernel
theorem dX12_sends_345 : decode cX12_sends 345 = .ok (.aload_n 0, 1) := by decide +kernel
theorem dX12_sends_346 : decode cX12_sends 346 = .ok (.invokevirtual 443, 3) := by decide +kernel
theorem dX12_sends_349 : decode cX12_sends 349 = .ok (.bipush 64, 2) := by decide +kernel
theorem dX12_sends_351 : decode cX12_sends 351 = .ok (.iload_n 1, 1) := by decide +kernel
theorem dX12_sends_352 : decode cX12_sends 352 = .ok (.imul, 1) := by decide +kernel
theorem dX12_sends_353 : decode cX12_sends 353 = .ok (.aload_n 0, 1) := by decide +kernel
theorem dX12_sends_354 : decode cX12_sends 354 = .ok (.getfield 285, 3) := by decide +kernel
theorem dX12_sends_357 : decode cX12_sends 357 = .ok (.bipush 64, 2) := by decide +kernel
theorem dX12_sends_359 : decode cX12_sends 359 = .ok (.irem, 1) := by decide +kernel
theorem dX12_sends_360 : decode cX12_sends 360 = .ok (.iadd, 1) := by decide +kernel
theorem dX12_sends_361 : decode cX12_sends 361 = .ok (.istore 5, 2) := by decide +kernel
theorem dX12_sends_363 : decode cX12_sends 363 = .ok (.iconst 4, 1) := by decide +kernel
theorem dX12_sends_364 : decode cX12_sends 364 = .ok (.iload_n 1, 1) := by decide +kernel
theorem dX12_sends_365 : decode cX12_sends 365 = .ok (.imul, 1) := by decide +kernel
theorem dX12_sends_366 : decode cX12_sends 366 = .ok (.aload_n 0, 1) := by decide +kernel
theorem dX12_sends_367 : decode cX12_sends 367 = .ok (.getfield 285, 3) := by decide +kernel
theorem dX12_sends_370 : decode cX12_sends 370 = .ok (.iconst 4, 1) := by decide +kernel
theorem dX12_sends_371 : decode cX12_sends 371 = .ok (.irem, 1) := by decide +kernel
theorem dX12_sends_372 : decode cX12_sends 372 = .ok (.iadd, 1) := by decide +kernel
theorem dX12_sends_373 : decode cX12_sends 373 = .ok (.istore 6, 2) := by decide +kernel
theorem dX12_sends_375 : decode cX12_sends 375 = .ok (.iconst 0, 1) := by decide +kernel
theorem dX12_sends_376 : decode cX12_sends 376 = .ok (.istore 7, 2) := by decide +kernel
theorem dX12_sends_378 : decode cX12_sends 378 = .ok (.iload 7, 2) := by decide +kernel
theorem dX12_sends_380 : decode cX12_sends 380 = .ok (.aload_n 0, 1) := by decide +kernel
theorem dX12_sends_381 : decode cX12_sends 381 = .ok (.getfield 433, 3) := by decide +kernel
theorem dX12_sends_384 : decode cX12_sends 384 = .ok (.if_icmp .ge 51, 3) := by decide +kernel
theorem dX12_sends_387 : decode cX12_sends 387 = .ok (.aload_n 0, 1) := by decide +kernel
theorem dX12_sends_388 : decode cX12_sends 388 = .ok (.getfield 204, 3) := by decide +kernel
theorem dX12_sends_391 : decode cX12_sends 391 = .ok (.sipush 320, 3) := by decide +kernel
theorem dX12_sends_394 : decode cX12_sends 394 = .ok (.iload 5, 2) := by decide +kernel
theorem dX12_sends_396 : decode cX12_sends 396 = .ok (.imul, 1) := by decide +kernel
theorem dX12_sends_397 : decode cX12_sends 397 = .ok (.iload 7, 2) := by decide +kernel
theorem dX12_sends_399 : decode cX12_sends 399 = .ok (.iadd, 1) := by decide +kernel
theorem dX12_sends_400 : decode cX12_sends 400 = .ok (.aload_n 0, 1) := by decide +kernel
theorem dX12_sends_401 : decode cX12_sends 401 = .ok (.getfield 200, 3) := by decide +kernel
theorem dX12_sends_404 : decode cX12_sends 404 = .ok (.iload 7, 2) := by decide +kernel
theorem dX12_sends_406 : decode cX12_sends 406 = .ok (.iaload, 1) := by decide +kernel
theorem dX12_sends_407 : decode cX12_sends 407 = .ok (.iastore, 1) := by decide +kernel
theorem dX12_sends_408 : decode cX12_sends 408 = .ok (.aload_n 0, 1) := by decide +kernel
theorem dX12_sends_409 : decode cX12_sends 409 = .ok (.getfield 210, 3) := by decide +kernel
theorem dX12_sends_412 : decode cX12_sends 412 = .ok (.sipush 320, 3) := by decide +kernel
theorem dX12_sends_415 : decode cX12_sends 415 = .ok (.iload 6, 2) := by decide +kernel
theorem dX12_sends_417 : decode cX12_sends 417 = .ok (.imul, 1) := by decide +kernel
theorem dX12_sends_418 : decode cX12_sends 418 = .ok (.iload 7, 2) := by decide +kernel
theorem dX12_sends_420 : decode cX12_sends 420 = .ok (.iadd, 1) := by decide +kernel
theorem dX12_sends_421 : decode cX12_sends 421 = .ok (.aload_n 0, 1) := by decide +kernel
theorem dX12_sends_422 : decode cX12_sends 422 = .ok (.getfield 200, 3) := by decide +kernel
theorem dX12_sends_425 : decode cX12_sends 425 = .ok (.iload 7, 2) := by decide +kernel
theorem dX12_sends_427 : decode cX12_sends 427 = .ok (.iaload, 1) := by decide +kernel
theorem dX12_sends_428 : decode cX12_sends 428 = .ok (.iastore, 1) := by decide +kernel
theorem dX12_sends_429 : decode cX12_sends 429 = .ok (.iinc 7 1, 3) := by decide +kernel
theorem dX12_sends_432 : decode cX12_sends 432 = .ok (.goto (-54), 3) := by decide +kernel
theorem dX12_sends_435 : decode cX12_sends 435 = .ok (.aload_n 0, 1) := by decide +kernel
theorem dX12_sends_436 : decode cX12_sends 436 = .ok (.getfield 207, 3) := by decide +kernel
theorem dX12_sends_439 : decode cX12_sends 439 = .ok (.iload 5, 2) := by decide +kernel
theorem dX12_sends_441 : decode cX12_sends 441 = .ok (.aload_n 0, 1) := by decide +kernel
theorem dX12_sends_442 : decode cX12_sends 442 = .ok (.getfield 433, 3) := by decide +kernel
theorem dX12_sends_445 : decode cX12_sends 445 = .ok (.iastore, 1) := by decide +kernel
theorem dX12_sends_446 : decode cX12_sends 446 = .ok (.aload_n 0, 1) := by decide +kernel
theorem dX12_sends_447 : decode cX12_sends 447 = .ok (.getfield 213, 3) := by decide +kernel
theorem dX12_sends_450 : decode cX12_sends 450 = .ok (.iload 6, 2) := by decide +kernel
theorem dX12_sends_452 : decode cX12_sends 452 = .ok (.aload_n 0, 1) := by decide +kernel
theorem dX12_sends_453 : decode cX12_sends 453 = .ok (.getfield 433, 3) := by decide +kernel
theorem dX12_sends_456 : decode cX12_sends 456 = .ok (.iastore, 1) := by decide +kernel
theorem dX12_sends_457 : decode cX12_sends 457 = .ok (.iconst 0, 1) := by decide +kernel
theorem dX12_sends_458 : decode cX12_sends 458 = .ok (.istore 7, 2) := by decide +kernel
theorem dX12_sends_460 : decode cX12_sends 460 = .ok (.iload 7, 2) := by decide +kernel
theorem dX12_sends_462 : decode cX12_sends 462 = .ok (.aload_n 0, 1) := by decide +kernel
theorem dX12_sends_463 : decode cX12_sends 463 = .ok (.getfield 422, 3) := by decide +kernel
theorem dX12_sends_466 : decode cX12_sends 466 = .ok (.if_icmp .ge 71, 3) := by decide +kernel
theorem dX12_sends_469 : decode cX12_sends 469 = .ok (.aload_n 0, 1) := by decide +kernel
theorem dX12_sends_470 : decode cX12_sends 470 = .ok (.getfield 216, 3) := by decide +kernel
theorem dX12_sends_473 : decode cX12_sends 473 = .ok (.iload 7, 2) := by decide +kernel
theorem dX12_sends_475 : decode cX12_sends 475 = .ok (.iaload, 1) := by decide +kernel
theorem dX12_sends_476 : decode cX12_sends 476 = .ok (.iload_n 1, 1) := by decide +kernel
theorem dX12_sends_477 : decode cX12_sends 477 = .ok (.if_icmp .ne 54, 3) := by decide +kernel
theorem dX12_sends_480 : decode cX12_sends 480 = .ok (.aload_n 0, 1) := by decide +kernel
theorem dX12_sends_481 : decode cX12_sends 481 = .ok (.getfield 219, 3) := by decide +kernel
theorem dX12_sends_484 : decode cX12_sends 484 = .ok (.iload 7, 2) := by decide +kernel
theorem dX12_sends_486 : decode cX12_sends 486 = .ok (.iaload, 1) := by decide +kernel
theorem dX12_sends_487 : decode cX12_sends 487 = .ok (.aload_n 0, 1) := by decide +kernel
theorem dX12_sends_488 : decode cX12_sends 488 = .ok (.getfield 285, 3) := by decide +kernel
theorem dX12_sends_491 : decode cX12_sends 491 = .ok (.if_icmp .ne 40, 3) := by decide +kernel
theorem dX12_sends_494 : decode cX12_sends 494 = .ok (.aload_n 0, 1) := by decide +kernel
theorem dX12_sends_495 : decode cX12_sends 495 = .ok (.getfield 222, 3) := by decide +kernel
theorem dX12_sends_498 : decode cX12_sends 498 = .ok (.iload 7, 2) := by decide +kernel
theorem dX12_sends_500 : decode cX12_sends 500 = .ok (.iaload, 1) := by decide +kernel
theorem dX12_sends_501 : decode cX12_sends 501 = .ok (.aload_n 0, 1) := by decide +kernel
theorem dX12_sends_502 : decode cX12_sends 502 = .ok (.getfield 433, 3) := by decide +kernel
theorem dX12_sends_505 : decode cX12_sends 505 = .ok (.if_icmp .ge 26, 3) := by decide +kernel
theorem dX12_sends_508 : decode cX12_sends 508 = .ok (.aload_n 0, 1) := by decide +kernel
theorem dX12_sends_509 : decode cX12_sends 509 = .ok (.getfield 210, 3) := by decide +kernel
theorem dX12_sends_512 : decode cX12_sends 512 = .ok (.sipush 320, 3) := by decide +kernel
theorem dX12_sends_515 : decode cX12_sends 515 = .ok (.iload 6, 2) := by decide +kernel
theorem dX12_sends_517 : decode cX12_sends 517 = .ok (.imul, 1) := by decide +kernel
theorem dX12_sends_518 : decode cX12_sends 518 = .ok (.aload_n 0, 1) := by decide +kernel
theorem dX12_sends_519 : decode cX12_sends 519 = .ok (.getfield 222, 3) := by decide +kernel
theorem dX12_sends_522 : decode cX12_sends 522 = .ok (.iload 7, 2) := by decide +kernel
theorem dX12_sends_524 : decode cX12_sends 524 = .ok (.iaload, 1) := by decide +kernel
theorem dX12_sends_525 : decode cX12_sends 525 = .ok (.iadd, 1) := by decide +kernel
theorem dX12_sends_526 : decode cX12_sends 526 = .ok (.dup2, 1) := by decide +kernel
theorem dX12_sends_527 : decode cX12_sends 527 = .ok (.iaload, 1) := by decide +kernel
theorem dX12_sends_528 : decode cX12_sends 528 = .ok (.iconst 1, 1) := by decide +kernel
theorem dX12_sends_529 : decode cX12_sends 529 = .ok (.ixor, 1) := by decide +kernel
theorem dX12_sends_530 : decode cX12_sends 530 = .ok (.iastore, 1) := by decide +kernel
theorem dX12_sends_531 : decode cX12_sends 531 = .ok (.iinc 7 1, 3) := by decide +kernel
theorem dX12_sends_534 : decode cX12_sends 534 = .ok (.goto (-74), 3) := by decide +kernel
theorem dX12_sends_537 : decode cX12_sends 537 = .ok (.iconst 0, 1) := by decide +kernel
theorem dX12_sends_538 : decode cX12_sends 538 = .ok (.istore 7, 2) := by decide +kernel
theorem dX12_sends_540 : decode cX12_sends 540 = .ok (.iload 7, 2) := by decide +kernel
theorem dX12_sends_542 : decode cX12_sends 542 = .ok (.aload_n 0, 1) := by decide +kernel
theorem dX12_sends_543 : decode cX12_sends 543 = .ok (.getfield 425, 3) := by decide +kernel
theorem dX12_sends_546 : decode cX12_sends 546 = .ok (.if_icmp .ge 42, 3) := by decide +kernel
theorem dX12_sends_549 : decode cX12_sends 549 = .ok (.aload_n 0, 1) := by decide +kernel
theorem dX12_sends_550 : decode cX12_sends 550 = .ok (.getfield 225, 3) := by decide +kernel
theorem dX12_sends_553 : decode cX12_sends 553 = .ok (.iload 7, 2) := by decide +kernel
theorem dX12_sends_555 : decode cX12_sends 555 = .ok (.iaload, 1) := by decide +kernel
theorem dX12_sends_556 : decode cX12_sends 556 = .ok (.iload_n 1, 1) := by decide +kernel
theorem dX12_sends_557 : decode cX12_sends 557 = .ok (.if_icmp .ne 25, 3) := by decide +kernel
theorem dX12_sends_560 : decode cX12_sends 560 = .ok (.aload_n 0, 1) := by decide +kernel
theorem dX12_sends_561 : decode cX12_sends 561 = .ok (.getfield 228, 3) := by decide +kernel
theorem dX12_sends_564 : decode cX12_sends 564 = .ok (.iload 7, 2) := by decide +kernel
theorem dX12_sends_566 : decode cX12_sends 566 = .ok (.iaload, 1) := by decide +kernel
theorem dX12_sends_567 : decode cX12_sends 567 = .ok (.aload_n 0, 1) := by decide +kernel
theorem dX12_sends_568 : decode cX12_sends 568 = .ok (.getfield 285, 3) := by decide +kernel
theorem dX12_sends_571 : decode cX12_sends 571 = .ok (.if_icmp .ne 11, 3) := by decide +kernel
theorem dX12_sends_574 : decode cX12_sends 574 = .ok (.aload_n 0, 1) := by decide +kernel
theorem dX12_sends_575 : decode cX12_sends 575 = .ok (.getfield 213, 3) := by decide +kernel
theorem dX12_sends_578 : decode cX12_sends 578 = .ok (.iload 6, 2) := by decide +kernel
theorem dX12_sends_580 : decode cX12_sends 580 = .ok (.iconst 0, 1) := by decide +kernel
theorem dX12_sends_581 : decode cX12_sends 581 = .ok (.iastore, 1) := by decide +kernel
theorem dX12_sends_582 : decode cX12_sends 582 = .ok (.iinc 7 1, 3) := by decide +kernel
theorem dX12_sends_585 : decode cX12_sends 585 = .ok (.goto (-45), 3) := by decide +kernel
theorem dX12_sends_588 : decode cX12_sends 588 = .ok (.return_, 1) := by decide +kernel
theorem dX12_isFlag_0 : decode cX12_isFlag 0 = .ok (.iconst 0, 1) := by decide +kernel
theorem dX12_isFlag_1 : decode cX12_isFlag 1 = .ok (.istore_n 2, 1) := by decide +kernel
theorem dX12_isFlag_2 : decode cX12_isFlag 2 = .ok (.iload_n 2, 1) := by decide +kernel
theorem dX12_isFlag_3 : decode cX12_isFlag 3 = .ok (.bipush 8, 2) := by decide +kernel
theorem dX12_isFlag_5 : decode cX12_isFlag 5 = .ok (.if_icmp .ge 34, 3) := by decide +kernel
theorem dX12_isFlag_8 : decode cX12_isFlag 8 = .ok (.aload_n 0, 1) := by decide +kernel
theorem dX12_isFlag_9 : decode cX12_isFlag 9 = .ok (.iload_n 1, 1) := by decide +kernel
theorem dX12_isFlag_10 : decode cX12_isFlag 10 = .ok (.iload_n 2, 1) := by decide +kernel
theorem dX12_isFlag_11 : decode cX12_isFlag 11 = .ok (.iadd, 1) := by decide +kernel
theorem dX12_isFlag_12 : decode cX12_isFlag 12 = .ok (.iaload, 1) := by decide +kernel
theorem dX12_isFlag_13 : decode cX12_isFlag 13 = .ok (.iload_n 2, 1) := by decide +kernel
theorem dX12_isFlag_14 : decode cX12_isFlag 14 = .ok (.ifCond .eq 9, 3) := by decide +kernel
theorem dX12_isFlag_17 : decode cX12_isFlag 17 = .ok (.iload_n 2, 1) := by decide +kernel
theorem dX12_isFlag_18 : decode cX12_isFlag 18 = .ok (.bipush 7, 2) := by decide +kernel
theorem dX12_isFlag_20 : decode cX12_isFlag 20 = .ok (.if_icmp .ne 7, 3) := by decide +kernel
theorem dX12_isFlag_23 : decode cX12_isFlag 23 = .ok (.iconst 0, 1) := by decide +kernel
theorem dX12_isFlag_24 : decode cX12_isFlag 24 = .ok (.goto 4, 3) := by decide +kernel
theorem dX12_isFlag_27 : decode cX12_isFlag 27 = .ok (.iconst 1, 1) := by decide +kernel
theorem dX12_isFlag_28 : decode cX12_isFlag 28 = .ok (.if_icmp .eq 5, 3) := by decide +kernel
theorem dX12_isFlag_31 : decode cX12_isFlag 31 = .ok (.iconst 0, 1) := by decide +kernel
theorem dX12_isFlag_32 : decode cX12_isFlag 32 = .ok (.ireturn, 1) := by decide +kernel
theorem dX12_isFlag_33 : decode cX12_isFlag 33 = .ok (.iinc 2 1, 3) := by decide +kernel
theorem dX12_isFlag_36 : decode cX12_isFlag 36 = .ok (.goto (-34), 3) := by decide +kernel
theorem dX12_isFlag_39 : decode cX12_isFlag 39 = .ok (.iconst 1, 1) := by decide +kernel
theorem dX12_isFlag_40 : decode cX12_isFlag 40 = .ok (.ireturn, 1) := by decide +kernel
theorem dX12_isRight_0 : decode cX12_isRight 0 = .ok (.sipush 320, 3) := by decide +kernel
theorem dX12_isRight_3 : decode cX12_isRight 3 = .ok (.iload_n 1, 1) := by decide +kernel
theorem dX12_isRight_4 : decode cX12_isRight 4 = .ok (.imul, 1) := by decide +kernel
theorem dX12_isRight_5 : decode cX12_isRight 5 = .ok (.istore_n 2, 1) := by decide +kernel
theorem dX12_isRight_6 : decode cX12_isRight 6 = .ok (.iload_n 2, 1) := by decide +kernel
theorem dX12_isRight_7 : decode cX12_isRight 7 = .ok (.aload_n 0, 1) := by decide +kernel
theorem dX12_isRight_8 : decode cX12_isRight 8 = .ok (.getfield 213, 3) := by decide +kernel
theorem dX12_isRight_11 : decode cX12_isRight 11 = .ok (.iload_n 1, 1) := by decide +kernel
theorem dX12_isRight_12 : decode cX12_isRight 12 = .ok (.iaload, 1) := by decide +kernel
theorem dX12_isRight_13 : decode cX12_isRight 13 = .ok (.iadd, 1) := by decide +kernel
theorem dX12_isRight_14 : decode cX12_isRight 14 = .ok (.istore_n 3, 1) := by decide +kernel
theorem dX12_isRight_15 : decode cX12_isRight 15 = .ok (.aload_n 0, 1) := by decide +kernel
theorem dX12_isRight_16 : decode cX12_isRight 16 = .ok (.getfield 210, 3) := by decide +kernel
theorem dX12_isRight_19 : decode cX12_isRight 19 = .ok (.iload_n 2, 1) := by decide +kernel
theorem dX12_isRight_20 : decode cX12_isRight 20 = .ok (.invokestatic 446, 3) := by decide +kernel
theorem dX12_isRight_23 : decode cX12_isRight 23 = .ok (.ifCond .ne 5, 3) := by decide +kernel
theorem dX12_isRight_26 : decode cX12_isRight 26 = .ok (.iconst 0, 1) := by decide +kernel
theorem dX12_isRight_27 : decode cX12_isRight 27 = .ok (.ireturn, 1) := by decide +kernel
theorem dX12_isRight_28 : decode cX12_isRight 28 = .ok (.iload_n 2, 1) := by decide +kernel
theorem dX12_isRight_29 : decode cX12_isRight 29 = .ok (.bipush 8, 2) := by decide +kernel
theorem dX12_isRight_31 : decode cX12_isRight 31 = .ok (.iadd, 1) := by decide +kernel
theorem dX12_isRight_32 : decode cX12_isRight 32 = .ok (.istore 4, 2) := by decide +kernel
theorem dX12_isRight_34 : decode cX12_isRight 34 = .ok (.iload 4, 2) := by decide +kernel
theorem dX12_isRight_36 : decode cX12_isRight 36 = .ok (.bipush 8, 2) := by decide +kernel
theorem dX12_isRight_38 : decode cX12_isRight 38 = .ok (.iadd, 1) := by decide +kernel
theorem dX12_isRight_39 : decode cX12_isRight 39 = .ok (.iload_n 3, 1) := by decide +kernel
theorem dX12_isRight_40 : decode cX12_isRight 40 = .ok (.if_icmp .gt 21, 3) := by decide +kernel
theorem dX12_isRight_43 : decode cX12_isRight 43 = .ok (.aload_n 0, 1) := by decide +kernel
theorem dX12_isRight_44 : decode cX12_isRight 44 = .ok (.getfield 210, 3) := by decide +kernel
theorem dX12_isRight_47 : decode cX12_isRight 47 = .ok (.iload 4, 2) := by decide +kernel
theorem dX12_isRight_49 : decode cX12_isRight 49 = .ok (.invokestatic 446, 3) := by decide +kernel
theorem dX12_isRight_52 : decode cX12_isRight 52 = .ok (.ifCond .ne 9, 3) := by decide +kernel
theorem dX12_isRight_55 : decode cX12_isRight 55 = .ok (.iinc 4 1, 3) := by decide +kernel
theorem dX12_isRight_58 : decode cX12_isRight 58 = .ok (.goto (-24), 3) := by decide +kernel
theorem dX12_isRight_61 : decode cX12_isRight 61 = .ok (.iload 4, 2) := by decide +kernel
theorem dX12_isRight_63 : decode cX12_isRight 63 = .ok (.bipush 8, 2) := by decide +kernel
theorem dX12_isRight_65 : decode cX12_isRight 65 = .ok (.iadd, 1) := by decide +kernel
theorem dX12_isRight_66 : decode cX12_isRight 66 = .ok (.iload_n 3, 1) := by decide +kernel
theorem dX12_isRight_67 : decode cX12_isRight 67 = .ok (.if_icmp .le 5, 3) := by decide +kernel
theorem dX12_isRight_70 : decode cX12_isRight 70 = .ok (.iconst 0, 1) := by decide +kernel
theorem dX12_isRight_71 : decode cX12_isRight 71 = .ok (.ireturn, 1) := by decide +kernel
theorem dX12_isRight_72 : decode cX12_isRight 72 = .ok (.aload_n 0, 1) := by decide +kernel
theorem dX12_isRight_73 : decode cX12_isRight 73 = .ok (.iconst 0, 1) := by decide +kernel
theorem dX12_isRight_74 : decode cX12_isRight 74 = .ok (.putfield 428, 3) := by decide +kernel
theorem dX12_isRight_77 : decode cX12_isRight 77 = .ok (.iconst 0, 1) := by decide +kernel
theorem dX12_isRight_78 : decode cX12_isRight 78 = .ok (.istore 5, 2) := by decide +kernel
theorem dX12_isRight_80 : decode cX12_isRight 80 = .ok (.iconst 1, 1) := by decide +kernel
theorem dX12_isRight_81 : decode cX12_isRight 81 = .ok (.istore 6, 2) := by decide +kernel
theorem dX12_isRight_83 : decode cX12_isRight 83 = .ok (.iload_n 2, 1) := by decide +kernel
theorem dX12_isRight_84 : decode cX12_isRight 84 = .ok (.bipush 8, 2) := by decide +kernel
theorem dX12_isRight_86 : decode cX12_isRight 86 = .ok (.iadd, 1) := by decide +kernel
theorem dX12_isRight_87 : decode cX12_isRight 87 = .ok (.istore 7, 2) := by decide +kernel
theorem dX12_isRight_89 : decode cX12_isRight 89 = .ok (.iload 7, 2) := by decide +kernel
theorem dX12_isRight_91 : decode cX12_isRight 91 = .ok (.iload 4, 2) := by decide +kernel
theorem dX12_isRight_93 : decode cX12_isRight 93 = .ok (.if_icmp .ge 85, 3) := by decide +kernel
theorem dX12_isRight_96 : decode cX12_isRight 96 = .ok (.iload 5, 2) := by decide +kernel
theorem dX12_isRight_98 : decode cX12_isRight 98 = .ok (.iconst 5, 1) := by decide +kernel
theorem dX12_isRight_99 : decode cX12_isRight 99 = .ok (.if_icmp .ne 29, 3) := by decide +kernel
theorem dX12_isRight_102 : decode cX12_isRight 102 = .ok (.iload 6, 2) := by decide +kernel
theorem dX12_isRight_104 : decode cX12_isRight 104 = .ok (.aload_n 0, 1) := by decide +kernel
theorem dX12_isRight_105 : decode cX12_isRight 105 = .ok (.getfield 210, 3) := by decide +kernel
theorem dX12_isRight_108 : decode cX12_isRight 108 = .ok (.iload 7, 2) := by decide +kernel
theorem dX12_isRight_110 : decode cX12_isRight 110 = .ok (.iaload, 1) := by decide +kernel
theorem dX12_isRight_111 : decode cX12_isRight 111 = .ok (.ifCond .ne 7, 3) := by decide +kernel
theorem dX12_isRight_114 : decode cX12_isRight 114 = .ok (.iconst 1, 1) := by decide +kernel
theorem dX12_isRight_115 : decode cX12_isRight 115 = .ok (.goto 4, 3) := by decide +kernel
theorem dX12_isRight_118 : decode cX12_isRight 118 = .ok (.iconst 0, 1) := by decide +kernel
theorem dX12_isRight_119 : decode cX12_isRight 119 = .ok (.iand, 1) := by decide +kernel
theorem dX12_isRight_120 : decode cX12_isRight 120 = .ok (.istore 6, 2) := by decide +kernel
theorem dX12_isRight_122 : decode cX12_isRight 122 = .ok (.iconst 0, 1) := by decide +kernel
theorem dX12_isRight_123 : decode cX12_isRight 123 = .ok (.istore 5, 2) := by decide +kernel
theorem dX12_isRight_125 : decode cX12_isRight 125 = .ok (.goto 47, 3) := by decide +kernel
theorem dX12_isRight_128 : decode cX12_isRight 128 = .ok (.aload_n 0, 1) := by decide +kernel
theorem dX12_isRight_129 : decode cX12_isRight 129 = .ok (.getfield 231, 3) := by decide +kernel
theorem dX12_isRight_132 : decode cX12_isRight 132 = .ok (.aload_n 0, 1) := by decide +kernel
theorem dX12_isRight_133 : decode cX12_isRight 133 = .ok (.dup, 1) := by decide +kernel
theorem dX12_isRight_134 : decode cX12_isRight 134 = .ok (.getfield 428, 3) := by decide +kernel
theorem dX12_isRight_137 : decode cX12_isRight 137 = .ok (.dup_x1, 1) := by decide +kernel
theorem dX12_isRight_138 : decode cX12_isRight 138 = .ok (.iconst 1, 1) := by decide +kernel
theorem dX12_isRight_139 : decode cX12_isRight 139 = .ok (.iadd, 1) := by decide +kernel
theorem dX12_isRight_140 : decode cX12_isRight 140 = .ok (.putfield 428, 3) := by decide +kernel
theorem dX12_isRight_143 : decode cX12_isRight 143 = .ok (.aload_n 0, 1) := by decide +kernel
theorem dX12_isRight_144 : decode cX12_isRight 144 = .ok (.getfield 210, 3) := by decide +kernel
theorem dX12_isRight_147 : decode cX12_isRight 147 = .ok (.iload 7, 2) := by decide +kernel
theorem dX12_isRight_149 : decode cX12_isRight 149 = .ok (.iaload, 1) := by decide +kernel
theorem dX12_isRight_150 : decode cX12_isRight 150 = .ok (.iastore, 1) := by decide +kernel
theorem dX12_isRight_151 : decode cX12_isRight 151 = .ok (.aload_n 0, 1) := by decide +kernel
theorem dX12_isRight_152 : decode cX12_isRight 152 = .ok (.getfield 210, 3) := by decide +kernel
theorem dX12_isRight_155 : decode cX12_isRight 155 = .ok (.iload 7, 2) := by decide +kernel
theorem dX12_isRight_157 : decode cX12_isRight 157 = .ok (.iaload, 1) := by decide +kernel
theorem dX12_isRight_158 : decode cX12_isRight 158 = .ok (.iconst 1, 1) := by decide +kernel
theorem dX12_isRight_159 : decode cX12_isRight 159 = .ok (.if_icmp .ne 10, 3) := by decide +kernel
theorem dX12_isRight_162 : decode cX12_isRight 162 = .ok (.iload 5, 2) := by decide +kernel
theorem dX12_isRight_164 : decode cX12_isRight 164 = .ok (.iconst 1, 1) := by decide +kernel
theorem dX12_isRight_165 : decode cX12_isRight 165 = .ok (.iadd, 1) := by decide +kernel
theorem dX12_isRight_166 : decode cX12_isRight 166 = .ok (.goto 4, 3) := by decide +kernel
theorem dX12_isRight_169 : decode cX12_isRight 169 = .ok (.iconst 0, 1) := by decide +kernel
theorem dX12_isRight_170 : decode cX12_isRight 170 = .ok (.istore 5, 2) := by decide +kernel
theorem dX12_isRight_172 : decode cX12_isRight 172 = .ok (.iinc 7 1, 3) := by decide +kernel
theorem dX12_isRight_175 : decode cX12_isRight 175 = .ok (.goto (-86), 3) := by decide +kernel
theorem dX12_isRight_178 : decode cX12_isRight 178 = .ok (.iload 6, 2) := by decide +kernel
theorem dX12_isRight_180 : decode cX12_isRight 180 = .ok (.ifCond .eq 33, 3) := by decide +kernel
theorem dX12_isRight_183 : decode cX12_isRight 183 = .ok (.aload_n 0, 1) := by decide +kernel
theorem dX12_isRight_184 : decode cX12_isRight 184 = .ok (.getfield 428, 3) := by decide +kernel
theorem dX12_isRight_187 : decode cX12_isRight 187 = .ok (.bipush 40, 2) := by decide +kernel
theorem dX12_isRight_189 : decode cX12_isRight 189 = .ok (.if_icmp .lt 24, 3) := by decide +kernel
theorem dX12_isRight_192 : decode cX12_isRight 192 = .ok (.aload_n 0, 1) := by decide +kernel
theorem dX12_isRight_193 : decode cX12_isRight 193 = .ok (.getfield 428, 3) := by decide +kernel
theorem dX12_isRight_196 : decode cX12_isRight 196 = .ok (.bipush 40, 2) := by decide +kernel
theorem dX12_isRight_198 : decode cX12_isRight 198 = .ok (.bipush 8, 2) := by decide +kernel
theorem dX12_isRight_200 : decode cX12_isRight 200 = .ok (.aload_n 0, 1) := by decide +kernel
theorem dX12_isRight_201 : decode cX12_isRight 201 = .ok (.bipush 16, 2) := by decide +kernel
theorem dX12_isRight_203 : decode cX12_isRight 203 = .ok (.bipush 6, 2) := by decide +kernel
theorem dX12_isRight_205 : decode cX12_isRight 205 = .ok (.invokevirtual 450, 3) := by decide +kernel
theorem dX12_isRight_208 : decode cX12_isRight 208 = .ok (.imul, 1) := by decide +kernel
theorem dX12_isRight_209 : decode cX12_isRight 209 = .ok (.iadd, 1) := by decide +kernel
theorem dX12_isRight_210 : decode cX12_isRight 210 = .ok (.if_icmp .eq 5, 3) := by decide +kernel
theorem dX12_isRight_213 : decode cX12_isRight 213 = .ok (.iconst 0, 1) := by decide +kernel
theorem dX12_isRight_214 : decode cX12_isRight 214 = .ok (.ireturn, 1) := by decide +kernel
theorem dX12_isRight_215 : decode cX12_isRight 215 = .ok (.aload_n 0, 1) := by decide +kernel
theorem dX12_isRight_216 : decode cX12_isRight 216 = .ok (.getfield 231, 3) := by decide +kernel
theorem dX12_isRight_219 : decode cX12_isRight 219 = .ok (.iconst 0, 1) := by decide +kernel
theorem dX12_isRight_220 : decode cX12_isRight 220 = .ok (.aload_n 0, 1) := by decide +kernel
theorem dX12_isRight_221 : decode cX12_isRight 221 = .ok (.getfield 428, 3) := by decide +kernel
theorem dX12_isRight_224 : decode cX12_isRight 224 = .ok (.bipush 16, 2) := by decide +kernel
theorem dX12_isRight_226 : decode cX12_isRight 226 = .ok (.isub, 1) := by decide +kernel
