theorem d_GM_init_0 : decode prog_10_method_1_code 0 = .ok (.aload_n 0, 1) := by decide +kernel
theorem d_GM_init_1 : decode prog_10_method_1_code 1 = .ok (.invokespecial 1, 3) := by decide +kernel
theorem d_GM_init_4 : decode prog_10_method_1_code 4 = .ok (.aload_n 0, 1) := by decide +kernel
theorem d_GM_init_5 : decode prog_10_method_1_code 5 = .ok (.iconst 0, 1) := by decide +kernel
theorem d_GM_init_6 : decode prog_10_method_1_code 6 = .ok (.putfield 7, 3) := by decide +kernel
theorem d_GM_init_9 : decode prog_10_method_1_code 9 = .ok (.aload_n 0, 1) := by decide +kernel
theorem d_GM_init_10 : decode prog_10_method_1_code 10 = .ok (.iconst 0, 1) := by decide +kernel
theorem d_GM_init_11 : decode prog_10_method_1_code 11 = .ok (.putfield 13, 3) := by decide +kernel
theorem d_GM_init_14 : decode prog_10_method_1_code 14 = .ok (.aload_n 0, 1) := by decide +kernel
theorem d_GM_init_15 : decode prog_10_method_1_code 15 = .ok (.iconst 0, 1) := by decide +kernel
theorem d_GM_init_16 : decode prog_10_method_1_code 16 = .ok (.putfield 16, 3) := by decide +kernel
theorem d_GM_init_19 : decode prog_10_method_1_code 19 = .ok (.aload_n 0, 1) := by decide +kernel
theorem d_GM_init_20 : decode prog_10_method_1_code 20 = .ok (.iconst (-1), 1) := by decide +kernel
theorem d_GM_init_21 : decode prog_10_method_1_code 21 = .ok (.putfield 19, 3) := by decide +kernel
theorem d_GM_init_24 : decode prog_10_method_1_code 24 = .ok (.aload_n 0, 1) := by decide +kernel
theorem d_GM_init_25 : decode prog_10_method_1_code 25 = .ok (.iconst 0, 1) := by decide +kernel
theorem d_GM_init_26 : decode prog_10_method_1_code 26 = .ok (.putfield 22, 3) := by decide +kernel
theorem d_GM_init_29 : decode prog_10_method_1_code 29 = .ok (.aload_n 0, 1) := by decide +kernel
theorem d_GM_init_30 : decode prog_10_method_1_code 30 = .ok (.iconst 0, 1) := by decide +kernel
theorem d_GM_init_31 : decode prog_10_method_1_code 31 = .ok (.putfield 25, 3) := by decide +kernel
theorem d_GM_init_34 : decode prog_10_method_1_code 34 = .ok (.aload_n 0, 1) := by decide +kernel
theorem d_GM_init_35 : decode prog_10_method_1_code 35 = .ok (.iconst 0, 1) := by decide +kernel
theorem d_GM_init_36 : decode prog_10_method_1_code 36 = .ok (.putfield 28, 3) := by decide +kernel
theorem d_GM_init_39 : decode prog_10_method_1_code 39 = .ok (.aload_n 0, 1) := by decide +kernel
theorem d_GM_init_40 : decode prog_10_method_1_code 40 = .ok (.iconst 0, 1) := by decide +kernel
theorem d_GM_init_41 : decode prog_10_method_1_code 41 = .ok (.putfield 31, 3) := by decide +kernel
theorem d_GM_init_44 : decode prog_10_method_1_code 44 = .ok (.aload_n 0, 1) := by decide +kernel
theorem d_GM_init_45 : decode prog_10_method_1_code 45 = .ok (.iconst 0, 1) := by decide +kernel
theorem d_GM_init_46 : decode prog_10_method_1_code 46 = .ok (.putfield 34, 3) := by decide +kernel
theorem d_GM_init_49 : decode prog_10_method_1_code 49 = .ok (.aload_n 0, 1) := by decide +kernel
theorem d_GM_init_50 : decode prog_10_method_1_code 50 = .ok (.iconst 0, 1) := by decide +kernel
theorem d_GM_init_51 : decode prog_10_method_1_code 51 = .ok (.putfield 37, 3) := by decide +kernel
theorem d_GM_init_54 : decode prog_10_method_1_code 54 = .ok (.aload_n 0, 1) := by decide +kernel
theorem d_GM_init_55 : decode prog_10_method_1_code 55 = .ok (.iconst 0, 1) := by decide +kernel
theorem d_GM_init_56 : decode prog_10_method_1_code 56 = .ok (.putfield 40, 3) := by decide +kernel
theorem d_GM_init_59 : decode prog_10_method_1_code 59 = .ok (.aload_n 0, 1) := by decide +kernel
theorem d_GM_init_60 : decode prog_10_method_1_code 60 = .ok (.iconst 0, 1) := by decide +kernel
theorem d_GM_init_61 : decode prog_10_method_1_code 61 = .ok (.putfield 43, 3) := by decide +kernel
theorem d_GM_init_64 : decode prog_10_method_1_code 64 = .ok (.aload_n 0, 1) := by decide +kernel
theorem d_GM_init_65 : decode prog_10_method_1_code 65 = .ok (.iconst 0, 1) := by decide +kernel
theorem d_GM_init_66 : decode prog_10_method_1_code 66 = .ok (.putfield 46, 3) := by decide +kernel
theorem d_GM_init_69 : decode prog_10_method_1_code 69 = .ok (.aload_n 0, 1) := by decide +kernel
theorem d_GM_init_70 : decode prog_10_method_1_code 70 = .ok (.iconst 0, 1) := by decide +kernel
theorem d_GM_init_71 : decode prog_10_method_1_code 71 = .ok (.putfield 49, 3) := by decide +kernel
theorem d_GM_init_74 : decode prog_10_method_1_code 74 = .ok (.aload_n 0, 1) := by decide +kernel
theorem d_GM_init_75 : decode prog_10_method_1_code 75 = .ok (.iconst 0, 1) := by decide +kernel
theorem d_GM_init_76 : decode prog_10_method_1_code 76 = .ok (.putfield 52, 3) := by decide +kernel
theorem d_GM_init_79 : decode prog_10_method_1_code 79 = .ok (.aload_n 0, 1) := by decide +kernel
theorem d_GM_init_80 : decode prog_10_method_1_code 80 = .ok (.iconst 0, 1) := by decide +kernel
theorem d_GM_init_81 : decode prog_10_method_1_code 81 = .ok (.putfield 55, 3) := by decide +kernel
theorem d_GM_init_84 : decode prog_10_method_1_code 84 = .ok (.aload_n 0, 1) := by decide +kernel
theorem d_GM_init_85 : decode prog_10_method_1_code 85 = .ok (.bipush 120, 2) := by decide +kernel
theorem d_GM_init_87 : decode prog_10_method_1_code 87 = .ok (.newarray .int, 2) := by decide +kernel
theorem d_GM_init_89 : decode prog_10_method_1_code 89 = .ok (.putfield 59, 3) := by decide +kernel
theorem d_GM_init_92 : decode prog_10_method_1_code 92 = .ok (.aload_n 0, 1) := by decide +kernel
theorem d_GM_init_93 : decode prog_10_method_1_code 93 = .ok (.bipush 120, 2) := by decide +kernel
theorem d_GM_init_95 : decode prog_10_method_1_code 95 = .ok (.newarray .int, 2) := by decide +kernel
theorem d_GM_init_97 : decode prog_10_method_1_code 97 = .ok (.putfield 63, 3) := by decide +kernel
theorem d_GM_init_100 : decode prog_10_method_1_code 100 = .ok (.aload_n 0, 1) := by decide +kernel
theorem d_GM_init_101 : decode prog_10_method_1_code 101 = .ok (.sipush 240, 3) := by decide +kernel
theorem d_GM_init_104 : decode prog_10_method_1_code 104 = .ok (.newarray .int, 2) := by decide +kernel
theorem d_GM_init_106 : decode prog_10_method_1_code 106 = .ok (.putfield 66, 3) := by decide +kernel
theorem d_GM_init_109 : decode prog_10_method_1_code 109 = .ok (.aload_n 0, 1) := by decide +kernel
theorem d_GM_init_110 : decode prog_10_method_1_code 110 = .ok (.sipush 240, 3) := by decide +kernel
theorem d_GM_init_113 : decode prog_10_method_1_code 113 = .ok (.newarray .int, 2) := by decide +kernel
theorem d_GM_init_115 : decode prog_10_method_1_code 115 = .ok (.putfield 69, 3) := by decide +kernel
theorem d_GM_init_118 : decode prog_10_method_1_code 118 = .ok (.aload_n 0, 1) := by decide +kernel
theorem d_GM_init_119 : decode prog_10_method_1_code 119 = .ok (.bipush 6, 2) := by decide +kernel
theorem d_GM_init_121 : decode prog_10_method_1_code 121 = .ok (.newarray .int, 2) := by decide +kernel
theorem d_GM_init_123 : decode prog_10_method_1_code 123 = .ok (.putfield 72, 3) := by decide +kernel
theorem d_GM_init_126 : decode prog_10_method_1_code 126 = .ok (.aload_n 0, 1) := by decide +kernel
theorem d_GM_init_127 : decode prog_10_method_1_code 127 = .ok (.bipush 6, 2) := by decide +kernel
theorem d_GM_init_129 : decode prog_10_method_1_code 129 = .ok (.newarray .int, 2) := by decide +kernel
theorem d_GM_init_131 : decode prog_10_method_1_code 131 = .ok (.putfield 75, 3) := by decide +kernel
theorem d_GM_init_134 : decode prog_10_method_1_code 134 = .ok (.aload_n 0, 1) := by decide +kernel
theorem d_GM_init_135 : decode prog_10_method_1_code 135 = .ok (.sipush 700, 3) := by decide +kernel
theorem d_GM_init_138 : decode prog_10_method_1_code 138 = .ok (.newarray .int, 2) := by decide +kernel
theorem d_GM_init_140 : decode prog_10_method_1_code 140 = .ok (.putfield 78, 3) := by decide +kernel
theorem d_GM_init_143 : decode prog_10_method_1_code 143 = .ok (.aload_n 0, 1) := by decide +kernel
theorem d_GM_init_144 : decode prog_10_method_1_code 144 = .ok (.sipush 700, 3) := by decide +kernel
theorem d_GM_init_147 : decode prog_10_method_1_code 147 = .ok (.newarray .int, 2) := by decide +kernel
theorem d_GM_init_149 : decode prog_10_method_1_code 149 = .ok (.putfield 81, 3) := by decide +kernel
theorem d_GM_init_152 : decode prog_10_method_1_code 152 = .ok (.aload_n 0, 1) := by decide +kernel
theorem d_GM_init_153 : decode prog_10_method_1_code 153 = .ok (.sipush 700, 3) := by decide +kernel
theorem d_GM_init_156 : decode prog_10_method_1_code 156 = .ok (.newarray .int, 2) := by decide +kernel
theorem d_GM_init_158 : decode prog_10_method_1_code 158 = .ok (.putfield 84, 3) := by decide +kernel
theorem d_GM_init_161 : decode prog_10_method_1_code 161 = .ok (.aload_n 0, 1) := by decide +kernel
theorem d_GM_init_162 : decode prog_10_method_1_code 162 = .ok (.sipush 700, 3) := by decide +kernel
theorem d_GM_init_165 : decode prog_10_method_1_code 165 = .ok (.newarray .int, 2) := by decide +kernel
theorem d_GM_init_167 : decode prog_10_method_1_code 167 = .ok (.putfield 87, 3) := by decide +kernel
theorem d_GM_init_170 : decode prog_10_method_1_code 170 = .ok (.aload_n 0, 1) := by decide +kernel
theorem d_GM_init_171 : decode prog_10_method_1_code 171 = .ok (.sipush 700, 3) := by decide +kernel
theorem d_GM_init_174 : decode prog_10_method_1_code 174 = .ok (.newarray .int, 2) := by decide +kernel
theorem d_GM_init_176 : decode prog_10_method_1_code 176 = .ok (.putfield 90, 3) := by decide +kernel
theorem d_GM_init_179 : decode prog_10_method_1_code 179 = .ok (.aload_n 0, 1) := by decide +kernel
theorem d_GM_init_180 : decode prog_10_method_1_code 180 = .ok (.sipush 700, 3) := by decide +kernel
theorem d_GM_init_183 : decode prog_10_method_1_code 183 = .ok (.newarray .int, 2) := by decide +kernel
theorem d_GM_init_185 : decode prog_10_method_1_code 185 = .ok (.putfield 93, 3) := by decide +kernel
theorem d_GM_init_188 : decode prog_10_method_1_code 188 = .ok (.aload_n 0, 1) := by decide +kernel
theorem d_GM_init_189 : decode prog_10_method_1_code 189 = .ok (.iconst 3, 1) := by decide +kernel
theorem d_GM_init_190 : decode prog_10_method_1_code 190 = .ok (.newarray .int, 2) := by decide +kernel
theorem d_GM_init_192 : decode prog_10_method_1_code 192 = .ok (.putfield 96, 3) := by decide +kernel
theorem d_GM_init_195 : decode prog_10_method_1_code 195 = .ok (.aload_n 0, 1) := by decide +kernel
theorem d_GM_init_196 : decode prog_10_method_1_code 196 = .ok (.iconst 3, 1) := by decide +kernel
theorem d_GM_init_197 : decode prog_10_method_1_code 197 = .ok (.newarray .int, 2) := by decide +kernel
theorem d_GM_init_199 : decode prog_10_method_1_code 199 = .ok (.putfield 99, 3) := by decide +kernel
theorem d_GM_init_202 : decode prog_10_method_1_code 202 = .ok (.aload_n 0, 1) := by decide +kernel
theorem d_GM_init_203 : decode prog_10_method_1_code 203 = .ok (.bipush 12, 2) := by decide +kernel
theorem d_GM_init_205 : decode prog_10_method_1_code 205 = .ok (.newarray .int, 2) := by decide +kernel
theorem d_GM_init_207 : decode prog_10_method_1_code 207 = .ok (.putfield 102, 3) := by decide +kernel
theorem d_GM_init_210 : decode prog_10_method_1_code 210 = .ok (.aload_n 0, 1) := by decide +kernel
theorem d_GM_init_211 : decode prog_10_method_1_code 211 = .ok (.sipush 156, 3) := by decide +kernel
theorem d_GM_init_214 : decode prog_10_method_1_code 214 = .ok (.newarray .long, 2) := by decide +kernel
theorem d_GM_init_216 : decode prog_10_method_1_code 216 = .ok (.putfield 105, 3) := by decide +kernel
theorem d_GM_init_219 : decode prog_10_method_1_code 219 = .ok (.aload_n 0, 1) := by decide +kernel
theorem d_GM_init_220 : decode prog_10_method_1_code 220 = .ok (.bipush 8, 2) := by decide +kernel
theorem d_GM_init_222 : decode prog_10_method_1_code 222 = .ok (.newarray .long, 2) := by decide +kernel
theorem d_GM_init_224 : decode prog_10_method_1_code 224 = .ok (.putfield 109, 3) := by decide +kernel
theorem d_GM_init_227 : decode prog_10_method_1_code 227 = .ok (.aload_n 0, 1) := by decide +kernel
theorem d_GM_init_228 : decode prog_10_method_1_code 228 = .ok (.bipush 13, 2) := by decide +kernel
theorem d_GM_init_230 : decode prog_10_method_1_code 230 = .ok (.newarray .long, 2) := by decide +kernel
theorem d_GM_init_232 : decode prog_10_method_1_code 232 = .ok (.putfield 112, 3) := by decide +kernel
theorem d_GM_init_235 : decode prog_10_method_1_code 235 = .ok (.aload_n 0, 1) := by decide +kernel
theorem d_GM_init_236 : decode prog_10_method_1_code 236 = .ok (.bipush 13, 2) := by decide +kernel
theorem d_GM_init_238 : decode prog_10_method_1_code 238 = .ok (.newarray .long, 2) := by decide +kernel
theorem d_GM_init_240 : decode prog_10_method_1_code 240 = .ok (.putfield 115, 3) := by decide +kernel
theorem d_GM_init_243 : decode prog_10_method_1_code 243 = .ok (.aload_n 0, 1) := by decide +kernel
theorem d_GM_init_244 : decode prog_10_method_1_code 244 = .ok (.sipush 5200, 3) := by decide +kernel
theorem d_GM_init_247 : decode prog_10_method_1_code 247 = .ok (.newarray .long, 2) := by decide +kernel
theorem d_GM_init_249 : decode prog_10_method_1_code 249 = .ok (.putfield 118, 3) := by decide +kernel
theorem d_GM_init_252 : decode prog_10_method_1_code 252 = .ok (.aload_n 0, 1) := by decide +kernel
theorem d_GM_init_253 : decode prog_10_method_1_code 253 = .ok (.sipush 320, 3) := by decide +kernel
theorem d_GM_init_256 : decode prog_10_method_1_code 256 = .ok (.newarray .int, 2) := by decide +kernel
theorem d_GM_init_258 : decode prog_10_method_1_code 258 = .ok (.putfield 121, 3) := by decide +kernel
theorem d_GM_init_261 : decode prog_10_method_1_code 261 = .ok (.aload_n 0, 1) := by decide +kernel
theorem d_GM_init_262 : decode prog_10_method_1_code 262 = .ok (.sipush 320, 3) := by decide +kernel
theorem d_GM_init_265 : decode prog_10_method_1_code 265 = .ok (.newarray .int, 2) := by decide +kernel
theorem d_GM_init_267 : decode prog_10_method_1_code 267 = .ok (.putfield 124, 3) := by decide +kernel
theorem d_GM_init_270 : decode prog_10_method_1_code 270 = .ok (.aload_n 0, 1) := by decide +kernel
theorem d_GM_init_271 : decode prog_10_method_1_code 271 = .ok (.sipush 320, 3) := by decide +kernel
theorem d_GM_init_274 : decode prog_10_method_1_code 274 = .ok (.newarray .long, 2) := by decide +kernel
theorem d_GM_init_276 : decode prog_10_method_1_code 276 = .ok (.putfield 127, 3) := by decide +kernel
theorem d_GM_init_279 : decode prog_10_method_1_code 279 = .ok (.aload_n 0, 1) := by decide +kernel
theorem d_GM_init_280 : decode prog_10_method_1_code 280 = .ok (.bipush 80, 2) := by decide +kernel
theorem d_GM_init_282 : decode prog_10_method_1_code 282 = .ok (.newarray .long, 2) := by decide +kernel
theorem d_GM_init_284 : decode prog_10_method_1_code 284 = .ok (.putfield 130, 3) := by decide +kernel
theorem d_GM_init_287 : decode prog_10_method_1_code 287 = .ok (.aload_n 0, 1) := by decide +kernel
theorem d_GM_init_288 : decode prog_10_method_1_code 288 = .ok (.bipush 110, 2) := by decide +kernel
theorem d_GM_init_290 : decode prog_10_method_1_code 290 = .ok (.newarray .long, 2) := by decide +kernel
theorem d_GM_init_292 : decode prog_10_method_1_code 292 = .ok (.putfield 133, 3) := by decide +kernel
theorem d_GM_init_295 : decode prog_10_method_1_code 295 = .ok (.aload_n 0, 1) := by decide +kernel
theorem d_GM_init_296 : decode prog_10_method_1_code 296 = .ok (.bipush 110, 2) := by decide +kernel
theorem d_GM_init_298 : decode prog_10_method_1_code 298 = .ok (.newarray .long, 2) := by decide +kernel
theorem d_GM_init_300 : decode prog_10_method_1_code 300 = .ok (.putfield 136, 3) := by decide +kernel
theorem d_GM_init_303 : decode prog_10_method_1_code 303 = .ok (.aload_n 0, 1) := by decide +kernel
theorem d_GM_init_304 : decode prog_10_method_1_code 304 = .ok (.bipush 110, 2) := by decide +kernel
theorem d_GM_init_306 : decode prog_10_method_1_code 306 = .ok (.newarray .long, 2) := by decide +kernel
theorem d_GM_init_308 : decode prog_10_method_1_code 308 = .ok (.putfield 139, 3) := by decide +kernel
theorem d_GM_init_311 : decode prog_10_method_1_code 311 = .ok (.aload_n 0, 1) := by decide +kernel
theorem d_GM_init_312 : decode prog_10_method_1_code 312 = .ok (.bipush 110, 2) := by decide +kernel
theorem d_GM_init_314 : decode prog_10_method_1_code 314 = .ok (.newarray .long, 2) := by decide +kernel
theorem d_GM_init_316 : decode prog_10_method_1_code 316 = .ok (.putfield 142, 3) := by decide +kernel
theorem d_GM_init_319 : decode prog_10_method_1_code 319 = .ok (.aload_n 0, 1) := by decide +kernel
theorem d_GM_init_320 : decode prog_10_method_1_code 320 = .ok (.bipush 14, 2) := by decide +kernel
theorem d_GM_init_322 : decode prog_10_method_1_code 322 = .ok (.newarray .int, 2) := by decide +kernel
theorem d_GM_init_324 : decode prog_10_method_1_code 324 = .ok (.putfield 145, 3) := by decide +kernel
theorem d_GM_init_327 : decode prog_10_method_1_code 327 = .ok (.aload_n 0, 1) := by decide +kernel
theorem d_GM_init_328 : decode prog_10_method_1_code 328 = .ok (.sipush 768, 3) := by decide +kernel
theorem d_GM_init_331 : decode prog_10_method_1_code 331 = .ok (.newarray .boolean, 2) := by decide +kernel
theorem d_GM_init_333 : decode prog_10_method_1_code 333 = .ok (.putfield 148, 3) := by decide +kernel
theorem d_GM_init_336 : decode prog_10_method_1_code 336 = .ok (.iconst 0, 1) := by decide +kernel
theorem d_GM_init_337 : decode prog_10_method_1_code 337 = .ok (.istore_n 1, 1) := by decide +kernel
theorem d_GM_init_338 : decode prog_10_method_1_code 338 = .ok (.iload_n 1, 1) := by decide +kernel
theorem d_GM_init_339 : decode prog_10_method_1_code 339 = .ok (.bipush 6, 2) := by decide +kernel
theorem d_GM_init_341 : decode prog_10_method_1_code 341 = .ok (.if_icmp .ge 16, 3) := by decide +kernel
theorem d_GM_init_344 : decode prog_10_method_1_code 344 = .ok (.aload_n 0, 1) := by decide +kernel
theorem d_GM_init_345 : decode prog_10_method_1_code 345 = .ok (.getfield 72, 3) := by decide +kernel
theorem d_GM_init_348 : decode prog_10_method_1_code 348 = .ok (.iload_n 1, 1) := by decide +kernel
theorem d_GM_init_349 : decode prog_10_method_1_code 349 = .ok (.iconst (-1), 1) := by decide +kernel
theorem d_GM_init_350 : decode prog_10_method_1_code 350 = .ok (.iastore, 1) := by decide +kernel
theorem d_GM_init_351 : decode prog_10_method_1_code 351 = .ok (.iinc 1 1, 3) := by decide +kernel
theorem d_GM_init_354 : decode prog_10_method_1_code 354 = .ok (.goto (-16), 3) := by decide +kernel
theorem d_GM_init_357 : decode prog_10_method_1_code 357 = .ok (.return_, 1) := by decide +kernel
theorem d_GM_feed_0 : decode prog_10_method_3_code 0 = .ok (.aload_n 0, 1) := by decide +kernel
theorem d_GM_feed_1 : decode prog_10_method_3_code 1 = .ok (.iload_n 1, 1) := by decide +kernel
theorem d_GM_feed_2 : decode prog_10_method_3_code 2 = .ok (.iconst 0, 1) := by decide +kernel
theorem d_GM_feed_3 : decode prog_10_method_3_code 3 = .ok (.iconst 4, 1) := by decide +kernel
theorem d_GM_feed_4 : decode prog_10_method_3_code 4 = .ok (.invokevirtual 152, 3) := by decide +kernel
theorem d_GM_feed_7 : decode prog_10_method_3_code 7 = .ok (.ifCond .ne 52, 3) := by decide +kernel
theorem d_GM_feed_10 : decode prog_10_method_3_code 10 = .ok (.iload_n 1, 1) := by decide +kernel
theorem d_GM_feed_11 : decode prog_10_method_3_code 11 = .ok (.ifCond .ne 17, 3) := by decide +kernel
theorem d_GM_feed_14 : decode prog_10_method_3_code 14 = .ok (.aload_n 0, 1) := by decide +kernel
theorem d_GM_feed_15 : decode prog_10_method_3_code 15 = .ok (.iload_n 2, 1) := by decide +kernel
theorem d_GM_feed_16 : decode prog_10_method_3_code 16 = .ok (.sipush (-16000), 3) := by decide +kernel
theorem d_GM_feed_19 : decode prog_10_method_3_code 19 = .ok (.sipush 16000, 3) := by decide +kernel
theorem d_GM_feed_22 : decode prog_10_method_3_code 22 = .ok (.invokevirtual 152, 3) := by decide +kernel
theorem d_GM_feed_25 : decode prog_10_method_3_code 25 = .ok (.ifCond .ne 34, 3) := by decide +kernel
theorem d_GM_feed_28 : decode prog_10_method_3_code 28 = .ok (.iload_n 1, 1) := by decide +kernel
theorem d_GM_feed_29 : decode prog_10_method_3_code 29 = .ok (.iconst 1, 1) := by decide +kernel
theorem d_GM_feed_30 : decode prog_10_method_3_code 30 = .ok (.if_icmp .ne 14, 3) := by decide +kernel
theorem d_GM_feed_33 : decode prog_10_method_3_code 33 = .ok (.aload_n 0, 1) := by decide +kernel
theorem d_GM_feed_34 : decode prog_10_method_3_code 34 = .ok (.iload_n 2, 1) := by decide +kernel
theorem d_GM_feed_35 : decode prog_10_method_3_code 35 = .ok (.iconst 0, 1) := by decide +kernel
theorem d_GM_feed_36 : decode prog_10_method_3_code 36 = .ok (.bipush 11, 2) := by decide +kernel
theorem d_GM_feed_38 : decode prog_10_method_3_code 38 = .ok (.invokevirtual 152, 3) := by decide +kernel
theorem d_GM_feed_41 : decode prog_10_method_3_code 41 = .ok (.ifCond .ne 18, 3) := by decide +kernel
theorem d_GM_feed_44 : decode prog_10_method_3_code 44 = .ok (.iload_n 1, 1) := by decide +kernel
theorem d_GM_feed_45 : decode prog_10_method_3_code 45 = .ok (.iconst 2, 1) := by decide +kernel
theorem d_GM_feed_46 : decode prog_10_method_3_code 46 = .ok (.if_icmp .ne 15, 3) := by decide +kernel
theorem d_GM_feed_49 : decode prog_10_method_3_code 49 = .ok (.aload_n 0, 1) := by decide +kernel
theorem d_GM_feed_50 : decode prog_10_method_3_code 50 = .ok (.iload_n 2, 1) := by decide +kernel
theorem d_GM_feed_51 : decode prog_10_method_3_code 51 = .ok (.iconst 0, 1) := by decide +kernel
theorem d_GM_feed_52 : decode prog_10_method_3_code 52 = .ok (.iconst 2, 1) := by decide +kernel
theorem d_GM_feed_53 : decode prog_10_method_3_code 53 = .ok (.invokevirtual 152, 3) := by decide +kernel
theorem d_GM_feed_56 : decode prog_10_method_3_code 56 = .ok (.ifCond .eq 5, 3) := by decide +kernel
theorem d_GM_feed_59 : decode prog_10_method_3_code 59 = .ok (.iconst (-1), 1) := by decide +kernel
theorem d_GM_feed_60 : decode prog_10_method_3_code 60 = .ok (.ireturn, 1) := by decide +kernel
theorem d_GM_feed_61 : decode prog_10_method_3_code 61 = .ok (.iload_n 1, 1) := by decide +kernel
theorem d_GM_feed_62 : decode prog_10_method_3_code 62 = .ok (.iconst 3, 1) := by decide +kernel
theorem d_GM_feed_63 : decode prog_10_method_3_code 63 = .ok (.if_icmp .ne 13, 3) := by decide +kernel
theorem d_GM_feed_66 : decode prog_10_method_3_code 66 = .ok (.aload_n 0, 1) := by decide +kernel
theorem d_GM_feed_67 : decode prog_10_method_3_code 67 = .ok (.iload_n 2, 1) := by decide +kernel
theorem d_GM_feed_68 : decode prog_10_method_3_code 68 = .ok (.iconst 0, 1) := by decide +kernel
theorem d_GM_feed_69 : decode prog_10_method_3_code 69 = .ok (.iconst 5, 1) := by decide +kernel
theorem d_GM_feed_70 : decode prog_10_method_3_code 70 = .ok (.invokevirtual 152, 3) := by decide +kernel
theorem d_GM_feed_73 : decode prog_10_method_3_code 73 = .ok (.ifCond .ne 19, 3) := by decide +kernel
theorem d_GM_feed_76 : decode prog_10_method_3_code 76 = .ok (.iload_n 1, 1) := by decide +kernel
theorem d_GM_feed_77 : decode prog_10_method_3_code 77 = .ok (.iconst 4, 1) := by decide +kernel
theorem d_GM_feed_78 : decode prog_10_method_3_code 78 = .ok (.if_icmp .ne 16, 3) := by decide +kernel
theorem d_GM_feed_81 : decode prog_10_method_3_code 81 = .ok (.aload_n 0, 1) := by decide +kernel
theorem d_GM_feed_82 : decode prog_10_method_3_code 82 = .ok (.iload_n 2, 1) := by decide +kernel
theorem d_GM_feed_83 : decode prog_10_method_3_code 83 = .ok (.iconst 0, 1) := by decide +kernel
theorem d_GM_feed_84 : decode prog_10_method_3_code 84 = .ok (.bipush 13, 2) := by decide +kernel
theorem d_GM_feed_86 : decode prog_10_method_3_code 86 = .ok (.invokevirtual 152, 3) := by decide +kernel
theorem d_GM_feed_89 : decode prog_10_method_3_code 89 = .ok (.ifCond .eq 5, 3) := by decide +kernel
theorem d_GM_feed_92 : decode prog_10_method_3_code 92 = .ok (.iconst (-1), 1) := by decide +kernel
theorem d_GM_feed_93 : decode prog_10_method_3_code 93 = .ok (.ireturn, 1) := by decide +kernel
theorem d_GM_feed_94 : decode prog_10_method_3_code 94 = .ok (.aload_n 0, 1) := by decide +kernel
theorem d_GM_feed_95 : decode prog_10_method_3_code 95 = .ok (.getfield 7, 3) := by decide +kernel
theorem d_GM_feed_98 : decode prog_10_method_3_code 98 = .ok (.bipush 120, 2) := by decide +kernel
theorem d_GM_feed_100 : decode prog_10_method_3_code 100 = .ok (.if_icmp .ne 6, 3) := by decide +kernel
theorem d_GM_feed_103 : decode prog_10_method_3_code 103 = .ok (.bipush (-2), 2) := by decide +kernel
theorem d_GM_feed_105 : decode prog_10_method_3_code 105 = .ok (.ireturn, 1) := by decide +kernel
theorem d_GM_feed_106 : decode prog_10_method_3_code 106 = .ok (.aload_n 0, 1) := by decide +kernel
theorem d_GM_feed_107 : decode prog_10_method_3_code 107 = .ok (.getfield 59, 3) := by decide +kernel
theorem d_GM_feed_110 : decode prog_10_method_3_code 110 = .ok (.aload_n 0, 1) := by decide +kernel
theorem d_GM_feed_111 : decode prog_10_method_3_code 111 = .ok (.getfield 7, 3) := by decide +kernel
theorem d_GM_feed_114 : decode prog_10_method_3_code 114 = .ok (.iload_n 1, 1) := by decide +kernel
theorem d_GM_feed_115 : decode prog_10_method_3_code 115 = .ok (.iastore, 1) := by decide +kernel
theorem d_GM_feed_116 : decode prog_10_method_3_code 116 = .ok (.aload_n 0, 1) := by decide +kernel
theorem d_GM_feed_117 : decode prog_10_method_3_code 117 = .ok (.getfield 63, 3) := by decide +kernel
theorem d_GM_feed_120 : decode prog_10_method_3_code 120 = .ok (.aload_n 0, 1) := by decide +kernel
theorem d_GM_feed_121 : decode prog_10_method_3_code 121 = .ok (.getfield 7, 3) := by decide +kernel
theorem d_GM_feed_124 : decode prog_10_method_3_code 124 = .ok (.iload_n 2, 1) := by decide +kernel
theorem d_GM_feed_125 : decode prog_10_method_3_code 125 = .ok (.iastore, 1) := by decide +kernel
theorem d_GM_feed_126 : decode prog_10_method_3_code 126 = .ok (.aload_n 0, 1) := by decide +kernel
theorem d_GM_feed_127 : decode prog_10_method_3_code 127 = .ok (.dup, 1) := by decide +kernel
theorem d_GM_feed_128 : decode prog_10_method_3_code 128 = .ok (.getfield 7, 3) := by decide +kernel
theorem d_GM_feed_131 : decode prog_10_method_3_code 131 = .ok (.iconst 1, 1) := by decide +kernel
theorem d_GM_feed_132 : decode prog_10_method_3_code 132 = .ok (.iadd, 1) := by decide +kernel
theorem d_GM_feed_133 : decode prog_10_method_3_code 133 = .ok (.putfield 7, 3) := by decide +kernel
theorem d_GM_feed_136 : decode prog_10_method_3_code 136 = .ok (.aload_n 0, 1) := by decide +kernel
theorem d_GM_feed_137 : decode prog_10_method_3_code 137 = .ok (.getfield 7, 3) := by decide +kernel
theorem d_GM_feed_140 : decode prog_10_method_3_code 140 = .ok (.ireturn, 1) := by decide +kernel
theorem d_GM_out_0 : decode prog_10_method_2_code 0 = .ok (.iload_n 1, 1) := by decide +kernel
theorem d_GM_out_1 : decode prog_10_method_2_code 1 = .ok (.iload_n 2, 1) := by decide +kernel
theorem d_GM_out_2 : decode prog_10_method_2_code 2 = .ok (.if_icmp .lt 8, 3) := by decide +kernel
theorem d_GM_out_5 : decode prog_10_method_2_code 5 = .ok (.iload_n 1, 1) := by decide +kernel
theorem d_GM_out_6 : decode prog_10_method_2_code 6 = .ok (.iload_n 3, 1) := by decide +kernel
theorem d_GM_out_7 : decode prog_10_method_2_code 7 = .ok (.if_icmp .le 7, 3) := by decide +kernel
theorem d_GM_out_10 : decode prog_10_method_2_code 10 = .ok (.iconst 1, 1) := by decide +kernel
theorem d_GM_out_11 : decode prog_10_method_2_code 11 = .ok (.goto 4, 3) := by decide +kernel
theorem d_GM_out_14 : decode prog_10_method_2_code 14 = .ok (.iconst 0, 1) := by decide +kernel
theorem d_GM_out_15 : decode prog_10_method_2_code 15 = .ok (.ireturn, 1) := by decide +kernel
theorem d_GM_wipe_0 : decode prog_10_method_4_code 0 = .ok (.aload_n 0, 1) := by decide +kernel
theorem d_GM_wipe_1 : decode prog_10_method_4_code 1 = .ok (.getfield 7, 3) := by decide +kernel
theorem d_GM_wipe_4 : decode prog_10_method_4_code 4 = .ok (.istore_n 1, 1) := by decide +kernel
theorem d_GM_wipe_5 : decode prog_10_method_4_code 5 = .ok (.aload_n 0, 1) := by decide +kernel
theorem d_GM_wipe_6 : decode prog_10_method_4_code 6 = .ok (.iconst 0, 1) := by decide +kernel
theorem d_GM_wipe_7 : decode prog_10_method_4_code 7 = .ok (.putfield 7, 3) := by decide +kernel
theorem d_GM_wipe_10 : decode prog_10_method_4_code 10 = .ok (.iload_n 1, 1) := by decide +kernel
theorem d_GM_wipe_11 : decode prog_10_method_4_code 11 = .ok (.ireturn, 1) := by decide +kernel
theorem d_GM_macro_0 : decode prog_10_method_5_code 0 = .ok (.aload_n 0, 1) := by decide +kernel
theorem d_GM_macro_1 : decode prog_10_method_5_code 1 = .ok (.iload_n 1, 1) := by decide +kernel
theorem d_GM_macro_2 : decode prog_10_method_5_code 2 = .ok (.iconst 0, 1) := by decide +kernel
theorem d_GM_macro_3 : decode prog_10_method_5_code 3 = .ok (.iconst 5, 1) := by decide +kernel
theorem d_GM_macro_4 : decode prog_10_method_5_code 4 = .ok (.invokevirtual 152, 3) := by decide +kernel
theorem d_GM_macro_7 : decode prog_10_method_5_code 7 = .ok (.ifCond .ne 22, 3) := by decide +kernel
theorem d_GM_macro_10 : decode prog_10_method_5_code 10 = .ok (.aload_n 0, 1) := by decide +kernel
theorem d_GM_macro_11 : decode prog_10_method_5_code 11 = .ok (.iload_n 2, 1) := by decide +kernel
theorem d_GM_macro_12 : decode prog_10_method_5_code 12 = .ok (.iconst 0, 1) := by decide +kernel
theorem d_GM_macro_13 : decode prog_10_method_5_code 13 = .ok (.iconst 3, 1) := by decide +kernel
theorem d_GM_macro_14 : decode prog_10_method_5_code 14 = .ok (.invokevirtual 152, 3) := by decide +kernel
theorem d_GM_macro_17 : decode prog_10_method_5_code 17 = .ok (.ifCond .ne 12, 3) := by decide +kernel
theorem d_GM_macro_20 : decode prog_10_method_5_code 20 = .ok (.aload_n 0, 1) := by decide +kernel
theorem d_GM_macro_21 : decode prog_10_method_5_code 21 = .ok (.getfield 7, 3) := by decide +kernel
theorem d_GM_macro_24 : decode prog_10_method_5_code 24 = .ok (.bipush 40, 2) := by decide +kernel
theorem d_GM_macro_26 : decode prog_10_method_5_code 26 = .ok (.if_icmp .le 5, 3) := by decide +kernel
theorem d_GM_macro_29 : decode prog_10_method_5_code 29 = .ok (.iconst (-1), 1) := by decide +kernel
theorem d_GM_macro_30 : decode prog_10_method_5_code 30 = .ok (.ireturn, 1) := by decide +kernel
theorem d_GM_macro_31 : decode prog_10_method_5_code 31 = .ok (.iconst 0, 1) := by decide +kernel
theorem d_GM_macro_32 : decode prog_10_method_5_code 32 = .ok (.istore_n 3, 1) := by decide +kernel
theorem d_GM_macro_33 : decode prog_10_method_5_code 33 = .ok (.iload_n 3, 1) := by decide +kernel
theorem d_GM_macro_34 : decode prog_10_method_5_code 34 = .ok (.aload_n 0, 1) := by decide +kernel
theorem d_GM_macro_35 : decode prog_10_method_5_code 35 = .ok (.getfield 7, 3) := by decide +kernel
theorem d_GM_macro_38 : decode prog_10_method_5_code 38 = .ok (.if_icmp .ge 31, 3) := by decide +kernel
theorem d_GM_macro_41 : decode prog_10_method_5_code 41 = .ok (.aload_n 0, 1) := by decide +kernel
theorem d_GM_macro_42 : decode prog_10_method_5_code 42 = .ok (.getfield 59, 3) := by decide +kernel
theorem d_GM_macro_45 : decode prog_10_method_5_code 45 = .ok (.iload_n 3, 1) := by decide +kernel
theorem d_GM_macro_46 : decode prog_10_method_5_code 46 = .ok (.iaload, 1) := by decide +kernel
theorem d_GM_macro_47 : decode prog_10_method_5_code 47 = .ok (.iconst 2, 1) := by decide +kernel
theorem d_GM_macro_48 : decode prog_10_method_5_code 48 = .ok (.if_icmp .ne 15, 3) := by decide +kernel
theorem d_GM_macro_51 : decode prog_10_method_5_code 51 = .ok (.aload_n 0, 1) := by decide +kernel
theorem d_GM_macro_52 : decode prog_10_method_5_code 52 = .ok (.getfield 63, 3) := by decide +kernel
theorem d_GM_macro_55 : decode prog_10_method_5_code 55 = .ok (.iload_n 3, 1) := by decide +kernel
theorem d_GM_macro_56 : decode prog_10_method_5_code 56 = .ok (.iaload, 1) := by decide +kernel
theorem d_GM_macro_57 : decode prog_10_method_5_code 57 = .ok (.iload_n 2, 1) := by decide +kernel
theorem d_GM_macro_58 : decode prog_10_method_5_code 58 = .ok (.if_icmp .lt 5, 3) := by decide +kernel
theorem d_GM_macro_61 : decode prog_10_method_5_code 61 = .ok (.iconst (-1), 1) := by decide +kernel
theorem d_GM_macro_62 : decode prog_10_method_5_code 62 = .ok (.ireturn, 1) := by decide +kernel
theorem d_GM_macro_63 : decode prog_10_method_5_code 63 = .ok (.iinc 3 1, 3) := by decide +kernel
theorem d_GM_macro_66 : decode prog_10_method_5_code 66 = .ok (.goto (-33), 3) := by decide +kernel
theorem d_GM_macro_69 : decode prog_10_method_5_code 69 = .ok (.iconst 0, 1) := by decide +kernel
theorem d_GM_macro_70 : decode prog_10_method_5_code 70 = .ok (.istore_n 3, 1) := by decide +kernel
theorem d_GM_macro_71 : decode prog_10_method_5_code 71 = .ok (.iload_n 3, 1) := by decide +kernel
theorem d_GM_macro_72 : decode prog_10_method_5_code 72 = .ok (.aload_n 0, 1) := by decide +kernel
theorem d_GM_macro_73 : decode prog_10_method_5_code 73 = .ok (.getfield 7, 3) := by decide +kernel
theorem d_GM_macro_76 : decode prog_10_method_5_code 76 = .ok (.if_icmp .ge 43, 3) := by decide +kernel
theorem d_GM_macro_79 : decode prog_10_method_5_code 79 = .ok (.aload_n 0, 1) := by decide +kernel
theorem d_GM_macro_80 : decode prog_10_method_5_code 80 = .ok (.getfield 66, 3) := by decide +kernel
theorem d_GM_macro_83 : decode prog_10_method_5_code 83 = .ok (.iload_n 1, 1) := by decide +kernel
theorem d_GM_macro_84 : decode prog_10_method_5_code 84 = .ok (.bipush 40, 2) := by decide +kernel
theorem d_GM_macro_86 : decode prog_10_method_5_code 86 = .ok (.imul, 1) := by decide +kernel
theorem d_GM_macro_87 : decode prog_10_method_5_code 87 = .ok (.iload_n 3, 1) := by decide +kernel
theorem d_GM_macro_88 : decode prog_10_method_5_code 88 = .ok (.iadd, 1) := by decide +kernel
theorem d_GM_macro_89 : decode prog_10_method_5_code 89 = .ok (.aload_n 0, 1) := by decide +kernel
theorem d_GM_macro_90 : decode prog_10_method_5_code 90 = .ok (.getfield 59, 3) := by decide +kernel
theorem d_GM_macro_93 : decode prog_10_method_5_code 93 = .ok (.iload_n 3, 1) := by decide +kernel
theorem d_GM_macro_94 : decode prog_10_method_5_code 94 = .ok (.iaload, 1) := by decide +kernel
theorem d_GM_macro_95 : decode prog_10_method_5_code 95 = .ok (.iastore, 1) := by decide +kernel
theorem d_GM_macro_96 : decode prog_10_method_5_code 96 = .ok (.aload_n 0, 1) := by decide +kernel
theorem d_GM_macro_97 : decode prog_10_method_5_code 97 = .ok (.getfield 69, 3) := by decide +kernel
theorem d_GM_macro_100 : decode prog_10_method_5_code 100 = .ok (.iload_n 1, 1) := by decide +kernel
theorem d_GM_macro_101 : decode prog_10_method_5_code 101 = .ok (.bipush 40, 2) := by decide +kernel
theorem d_GM_macro_103 : decode prog_10_method_5_code 103 = .ok (.imul, 1) := by decide +kernel
theorem d_GM_macro_104 : decode prog_10_method_5_code 104 = .ok (.iload_n 3, 1) := by decide +kernel
theorem d_GM_macro_105 : decode prog_10_method_5_code 105 = .ok (.iadd, 1) := by decide +kernel
theorem d_GM_macro_106 : decode prog_10_method_5_code 106 = .ok (.aload_n 0, 1) := by decide +kernel
theorem d_GM_macro_107 : decode prog_10_method_5_code 107 = .ok (.getfield 63, 3) := by decide +kernel
theorem d_GM_macro_110 : decode prog_10_method_5_code 110 = .ok (.iload_n 3, 1) := by decide +kernel
theorem d_GM_macro_111 : decode prog_10_method_5_code 111 = .ok (.iaload, 1) := by decide +kernel
theorem d_GM_macro_112 : decode prog_10_method_5_code 112 = .ok (.iastore, 1) := by decide +kernel
theorem d_GM_macro_113 : decode prog_10_method_5_code 113 = .ok (.iinc 3 1, 3) := by decide +kernel
theorem d_GM_macro_116 : decode prog_10_method_5_code 116 = .ok (.goto (-45), 3) := by decide +kernel
theorem d_GM_macro_119 : decode prog_10_method_5_code 119 = .ok (.aload_n 0, 1) := by decide +kernel
theorem d_GM_macro_120 : decode prog_10_method_5_code 120 = .ok (.getfield 72, 3) := by decide +kernel
theorem d_GM_macro_123 : decode prog_10_method_5_code 123 = .ok (.iload_n 1, 1) := by decide +kernel
theorem d_GM_macro_124 : decode prog_10_method_5_code 124 = .ok (.aload_n 0, 1) := by decide +kernel
theorem d_GM_macro_125 : decode prog_10_method_5_code 125 = .ok (.getfield 7, 3) := by decide +kernel
theorem d_GM_macro_128 : decode prog_10_method_5_code 128 = .ok (.iastore, 1) := by decide +kernel
theorem d_GM_macro_129 : decode prog_10_method_5_code 129 = .ok (.aload_n 0, 1) := by decide +kernel
theorem d_GM_macro_130 : decode prog_10_method_5_code 130 = .ok (.getfield 75, 3) := by decide +kernel
theorem d_GM_macro_133 : decode prog_10_method_5_code 133 = .ok (.iload_n 1, 1) := by decide +kernel
theorem d_GM_macro_134 : decode prog_10_method_5_code 134 = .ok (.iload_n 2, 1) := by decide +kernel
theorem d_GM_macro_135 : decode prog_10_method_5_code 135 = .ok (.iastore, 1) := by decide +kernel
theorem d_GM_macro_136 : decode prog_10_method_5_code 136 = .ok (.aload_n 0, 1) := by decide +kernel
theorem d_GM_macro_137 : decode prog_10_method_5_code 137 = .ok (.iconst 0, 1) := by decide +kernel
theorem d_GM_macro_138 : decode prog_10_method_5_code 138 = .ok (.putfield 7, 3) := by decide +kernel
theorem d_GM_macro_141 : decode prog_10_method_5_code 141 = .ok (.iconst 0, 1) := by decide +kernel
theorem d_GM_macro_142 : decode prog_10_method_5_code 142 = .ok (.ireturn, 1) := by decide +kernel
theorem d_GM_run_0 : decode prog_10_method_51_code 0 = .ok (.aload_n 0, 1) := by decide +kernel
theorem d_GM_run_1 : decode prog_10_method_51_code 1 = .ok (.iconst 0, 1) := by decide +kernel
theorem d_GM_run_2 : decode prog_10_method_51_code 2 = .ok (.putfield 25, 3) := by decide +kernel
theorem d_GM_run_5 : decode prog_10_method_51_code 5 = .ok (.aload_n 0, 1) := by decide +kernel
theorem d_GM_run_6 : decode prog_10_method_51_code 6 = .ok (.iconst 0, 1) := by decide +kernel
theorem d_GM_run_7 : decode prog_10_method_51_code 7 = .ok (.putfield 28, 3) := by decide +kernel
theorem d_GM_run_10 : decode prog_10_method_51_code 10 = .ok (.aload_n 0, 1) := by decide +kernel
theorem d_GM_run_11 : decode prog_10_method_51_code 11 = .ok (.invokevirtual 329, 3) := by decide +kernel
theorem d_GM_run_14 : decode prog_10_method_51_code 14 = .ok (.aload_n 0, 1) := by decide +kernel
theorem d_GM_run_15 : decode prog_10_method_51_code 15 = .ok (.iconst 0, 1) := by decide +kernel
theorem d_GM_run_16 : decode prog_10_method_51_code 16 = .ok (.putfield 7, 3) := by decide +kernel
theorem d_GM_run_19 : decode prog_10_method_51_code 19 = .ok (.aload_n 0, 1) := by decide +kernel
theorem d_GM_run_20 : decode prog_10_method_51_code 20 = .ok (.iconst 0, 1) := by decide +kernel
theorem d_GM_run_21 : decode prog_10_method_51_code 21 = .ok (.putfield 22, 3) := by decide +kernel
theorem d_GM_run_24 : decode prog_10_method_51_code 24 = .ok (.aload_n 0, 1) := by decide +kernel
theorem d_GM_run_25 : decode prog_10_method_51_code 25 = .ok (.getfield 25, 3) := by decide +kernel
theorem d_GM_run_28 : decode prog_10_method_51_code 28 = .ok (.ifCond .ne 21, 3) := by decide +kernel
theorem d_GM_run_31 : decode prog_10_method_51_code 31 = .ok (.aload_n 0, 1) := by decide +kernel
theorem d_GM_run_32 : decode prog_10_method_51_code 32 = .ok (.getfield 22, 3) := by decide +kernel
theorem d_GM_run_35 : decode prog_10_method_51_code 35 = .ok (.aload_n 0, 1) := by decide +kernel
theorem d_GM_run_36 : decode prog_10_method_51_code 36 = .ok (.getfield 13, 3) := by decide +kernel
theorem d_GM_run_39 : decode prog_10_method_51_code 39 = .ok (.if_icmp .ge 10, 3) := by decide +kernel
theorem d_GM_run_42 : decode prog_10_method_51_code 42 = .ok (.aload_n 0, 1) := by decide +kernel
theorem d_GM_run_43 : decode prog_10_method_51_code 43 = .ok (.invokevirtual 332, 3) := by decide +kernel
theorem d_GM_run_46 : decode prog_10_method_51_code 46 = .ok (.goto (-22), 3) := by decide +kernel
theorem d_GM_run_49 : decode prog_10_method_51_code 49 = .ok (.aload_n 0, 1) := by decide +kernel
theorem d_GM_run_50 : decode prog_10_method_51_code 50 = .ok (.aload_n 0, 1) := by decide +kernel
theorem d_GM_run_51 : decode prog_10_method_51_code 51 = .ok (.getfield 25, 3) := by decide +kernel
theorem d_GM_run_54 : decode prog_10_method_51_code 54 = .ok (.ifCond .ne 10, 3) := by decide +kernel
theorem d_GM_run_57 : decode prog_10_method_51_code 57 = .ok (.aload_n 0, 1) := by decide +kernel
theorem d_GM_run_58 : decode prog_10_method_51_code 58 = .ok (.getfield 13, 3) := by decide +kernel
theorem d_GM_run_61 : decode prog_10_method_51_code 61 = .ok (.goto 7, 3) := by decide +kernel
theorem d_GM_run_64 : decode prog_10_method_51_code 64 = .ok (.aload_n 0, 1) := by decide +kernel
theorem d_GM_run_65 : decode prog_10_method_51_code 65 = .ok (.getfield 28, 3) := by decide +kernel
theorem d_GM_run_68 : decode prog_10_method_51_code 68 = .ok (.putfield 19, 3) := by decide +kernel
theorem d_GM_run_71 : decode prog_10_method_51_code 71 = .ok (.aload_n 0, 1) := by decide +kernel
theorem d_GM_run_72 : decode prog_10_method_51_code 72 = .ok (.getfield 25, 3) := by decide +kernel
theorem d_GM_run_75 : decode prog_10_method_51_code 75 = .ok (.ireturn, 1) := by decide +kernel
theorem d_GM_expand_0 : decode prog_10_method_11_code 0 = .ok (.aload_n 0, 1) := by decide +kernel
theorem d_GM_expand_1 : decode prog_10_method_11_code 1 = .ok (.aload_n 0, 1) := by decide +kernel
theorem d_GM_expand_2 : decode prog_10_method_11_code 2 = .ok (.getfield 7, 3) := by decide +kernel
theorem d_GM_expand_5 : decode prog_10_method_11_code 5 = .ok (.putfield 13, 3) := by decide +kernel
theorem d_GM_expand_8 : decode prog_10_method_11_code 8 = .ok (.iconst 0, 1) := by decide +kernel
theorem d_GM_expand_9 : decode prog_10_method_11_code 9 = .ok (.istore_n 1, 1) := by decide +kernel
theorem d_GM_expand_10 : decode prog_10_method_11_code 10 = .ok (.iload_n 1, 1) := by decide +kernel
theorem d_GM_expand_11 : decode prog_10_method_11_code 11 = .ok (.aload_n 0, 1) := by decide +kernel
theorem d_GM_expand_12 : decode prog_10_method_11_code 12 = .ok (.getfield 7, 3) := by decide +kernel
theorem d_GM_expand_15 : decode prog_10_method_11_code 15 = .ok (.if_icmp .ge 40, 3) := by decide +kernel
theorem d_GM_expand_18 : decode prog_10_method_11_code 18 = .ok (.aload_n 0, 1) := by decide +kernel
theorem d_GM_expand_19 : decode prog_10_method_11_code 19 = .ok (.getfield 78, 3) := by decide +kernel
theorem d_GM_expand_22 : decode prog_10_method_11_code 22 = .ok (.iload_n 1, 1) := by decide +kernel
theorem d_GM_expand_23 : decode prog_10_method_11_code 23 = .ok (.aload_n 0, 1) := by decide +kernel
theorem d_GM_expand_24 : decode prog_10_method_11_code 24 = .ok (.getfield 59, 3) := by decide +kernel
theorem d_GM_expand_27 : decode prog_10_method_11_code 27 = .ok (.iload_n 1, 1) := by decide +kernel
theorem d_GM_expand_28 : decode prog_10_method_11_code 28 = .ok (.iaload, 1) := by decide +kernel
theorem d_GM_expand_29 : decode prog_10_method_11_code 29 = .ok (.iastore, 1) := by decide +kernel
theorem d_GM_expand_30 : decode prog_10_method_11_code 30 = .ok (.aload_n 0, 1) := by decide +kernel
theorem d_GM_expand_31 : decode prog_10_method_11_code 31 = .ok (.getfield 81, 3) := by decide +kernel
theorem d_GM_expand_34 : decode prog_10_method_11_code 34 = .ok (.iload_n 1, 1) := by decide +kernel
theorem d_GM_expand_35 : decode prog_10_method_11_code 35 = .ok (.aload_n 0, 1) := by decide +kernel
theorem d_GM_expand_36 : decode prog_10_method_11_code 36 = .ok (.getfield 63, 3) := by decide +kernel
theorem d_GM_expand_39 : decode prog_10_method_11_code 39 = .ok (.iload_n 1, 1) := by decide +kernel
theorem d_GM_expand_40 : decode prog_10_method_11_code 40 = .ok (.iaload, 1) := by decide +kernel
theorem d_GM_expand_41 : decode prog_10_method_11_code 41 = .ok (.iastore, 1) := by decide +kernel
theorem d_GM_expand_42 : decode prog_10_method_11_code 42 = .ok (.aload_n 0, 1) := by decide +kernel
theorem d_GM_expand_43 : decode prog_10_method_11_code 43 = .ok (.getfield 84, 3) := by decide +kernel
theorem d_GM_expand_46 : decode prog_10_method_11_code 46 = .ok (.iload_n 1, 1) := by decide +kernel
theorem d_GM_expand_47 : decode prog_10_method_11_code 47 = .ok (.iconst 0, 1) := by decide +kernel
theorem d_GM_expand_48 : decode prog_10_method_11_code 48 = .ok (.iastore, 1) := by decide +kernel
theorem d_GM_expand_49 : decode prog_10_method_11_code 49 = .ok (.iinc 1 1, 3) := by decide +kernel
theorem d_GM_expand_52 : decode prog_10_method_11_code 52 = .ok (.goto (-42), 3) := by decide +kernel
theorem d_GM_expand_55 : decode prog_10_method_11_code 55 = .ok (.aload_n 0, 1) := by decide +kernel
theorem d_GM_expand_56 : decode prog_10_method_11_code 56 = .ok (.iconst 0, 1) := by decide +kernel
theorem d_GM_expand_57 : decode prog_10_method_11_code 57 = .ok (.putfield 16, 3) := by decide +kernel
theorem d_GM_expand_60 : decode prog_10_method_11_code 60 = .ok (.iconst 0, 1) := by decide +kernel
theorem d_GM_expand_61 : decode prog_10_method_11_code 61 = .ok (.istore_n 1, 1) := by decide +kernel
theorem d_GM_expand_62 : decode prog_10_method_11_code 62 = .ok (.iload_n 1, 1) := by decide +kernel
theorem d_GM_expand_63 : decode prog_10_method_11_code 63 = .ok (.aload_n 0, 1) := by decide +kernel
theorem d_GM_expand_64 : decode prog_10_method_11_code 64 = .ok (.getfield 13, 3) := by decide +kernel
theorem d_GM_expand_67 : decode prog_10_method_11_code 67 = .ok (.if_icmp .ge 60, 3) := by decide +kernel
theorem d_GM_expand_70 : decode prog_10_method_11_code 70 = .ok (.aload_n 0, 1) := by decide +kernel
theorem d_GM_expand_71 : decode prog_10_method_11_code 71 = .ok (.getfield 25, 3) := by decide +kernel
theorem d_GM_expand_74 : decode prog_10_method_11_code 74 = .ok (.ifCond .ne 53, 3) := by decide +kernel
theorem d_GM_expand_77 : decode prog_10_method_11_code 77 = .ok (.aload_n 0, 1) := by decide +kernel
theorem d_GM_expand_78 : decode prog_10_method_11_code 78 = .ok (.getfield 78, 3) := by decide +kernel
theorem d_GM_expand_81 : decode prog_10_method_11_code 81 = .ok (.iload_n 1, 1) := by decide +kernel
theorem d_GM_expand_82 : decode prog_10_method_11_code 82 = .ok (.iaload, 1) := by decide +kernel
theorem d_GM_expand_83 : decode prog_10_method_11_code 83 = .ok (.iconst 2, 1) := by decide +kernel
theorem d_GM_expand_84 : decode prog_10_method_11_code 84 = .ok (.if_icmp .ne 13, 3) := by decide +kernel
theorem d_GM_expand_87 : decode prog_10_method_11_code 87 = .ok (.aload_n 0, 1) := by decide +kernel
theorem d_GM_expand_88 : decode prog_10_method_11_code 88 = .ok (.bipush (-3), 2) := by decide +kernel
theorem d_GM_expand_90 : decode prog_10_method_11_code 90 = .ok (.iload_n 1, 1) := by decide +kernel
theorem d_GM_expand_91 : decode prog_10_method_11_code 91 = .ok (.invokevirtual 164, 3) := by decide +kernel
theorem d_GM_expand_94 : decode prog_10_method_11_code 94 = .ok (.goto (-32), 3) := by decide +kernel
theorem d_GM_expand_97 : decode prog_10_method_11_code 97 = .ok (.aload_n 0, 1) := by decide +kernel
theorem d_GM_expand_98 : decode prog_10_method_11_code 98 = .ok (.getfield 78, 3) := by decide +kernel
theorem d_GM_expand_101 : decode prog_10_method_11_code 101 = .ok (.iload_n 1, 1) := by decide +kernel
theorem d_GM_expand_102 : decode prog_10_method_11_code 102 = .ok (.iaload, 1) := by decide +kernel
theorem d_GM_expand_103 : decode prog_10_method_11_code 103 = .ok (.iconst 3, 1) := by decide +kernel
theorem d_GM_expand_104 : decode prog_10_method_11_code 104 = .ok (.if_icmp .eq 9, 3) := by decide +kernel
theorem d_GM_expand_107 : decode prog_10_method_11_code 107 = .ok (.iinc 1 1, 3) := by decide +kernel
theorem d_GM_expand_110 : decode prog_10_method_11_code 110 = .ok (.goto (-48), 3) := by decide +kernel
theorem d_GM_expand_113 : decode prog_10_method_11_code 113 = .ok (.aload_n 0, 1) := by decide +kernel
theorem d_GM_expand_114 : decode prog_10_method_11_code 114 = .ok (.iload_n 1, 1) := by decide +kernel
theorem d_GM_expand_115 : decode prog_10_method_11_code 115 = .ok (.aload_n 0, 1) := by decide +kernel
theorem d_GM_expand_116 : decode prog_10_method_11_code 116 = .ok (.getfield 81, 3) := by decide +kernel
theorem d_GM_expand_119 : decode prog_10_method_11_code 119 = .ok (.iload_n 1, 1) := by decide +kernel
theorem d_GM_expand_120 : decode prog_10_method_11_code 120 = .ok (.iaload, 1) := by decide +kernel
theorem d_GM_expand_121 : decode prog_10_method_11_code 121 = .ok (.invokevirtual 168, 3) := by decide +kernel
theorem d_GM_expand_124 : decode prog_10_method_11_code 124 = .ok (.goto (-62), 3) := by decide +kernel
theorem d_GM_expand_127 : decode prog_10_method_11_code 127 = .ok (.return_, 1) := by decide +kernel
theorem d_GM_stop_0 : decode prog_10_method_10_code 0 = .ok (.aload_n 0, 1) := by decide +kernel
theorem d_GM_stop_1 : decode prog_10_method_10_code 1 = .ok (.iload_n 1, 1) := by decide +kernel
theorem d_GM_stop_2 : decode prog_10_method_10_code 2 = .ok (.putfield 25, 3) := by decide +kernel
theorem d_GM_stop_5 : decode prog_10_method_10_code 5 = .ok (.aload_n 0, 1) := by decide +kernel
theorem d_GM_stop_6 : decode prog_10_method_10_code 6 = .ok (.iload_n 2, 1) := by decide +kernel
theorem d_GM_stop_7 : decode prog_10_method_10_code 7 = .ok (.putfield 28, 3) := by decide +kernel
theorem d_GM_stop_10 : decode prog_10_method_10_code 10 = .ok (.return_, 1) := by decide +kernel
theorem d_GM_call_0 : decode prog_10_method_12_code 0 = .ok (.aload_n 0, 1) := by decide +kernel
theorem d_GM_call_1 : decode prog_10_method_12_code 1 = .ok (.getfield 72, 3) := by decide +kernel
theorem d_GM_call_4 : decode prog_10_method_12_code 4 = .ok (.iload_n 2, 1) := by decide +kernel
theorem d_GM_call_5 : decode prog_10_method_12_code 5 = .ok (.iaload, 1) := by decide +kernel
theorem d_GM_call_6 : decode prog_10_method_12_code 6 = .ok (.ifCond .ge 13, 3) := by decide +kernel
theorem d_GM_call_9 : decode prog_10_method_12_code 9 = .ok (.aload_n 0, 1) := by decide +kernel
theorem d_GM_call_10 : decode prog_10_method_12_code 10 = .ok (.bipush (-4), 2) := by decide +kernel
theorem d_GM_call_12 : decode prog_10_method_12_code 12 = .ok (.iload_n 1, 1) := by decide +kernel
theorem d_GM_call_13 : decode prog_10_method_12_code 13 = .ok (.invokevirtual 164, 3) := by decide +kernel
theorem d_GM_call_16 : decode prog_10_method_12_code 16 = .ok (.goto 21, 3) := by decide +kernel
theorem d_GM_call_19 : decode prog_10_method_12_code 19 = .ok (.aload_n 0, 1) := by decide +kernel
theorem d_GM_call_20 : decode prog_10_method_12_code 20 = .ok (.getfield 84, 3) := by decide +kernel
theorem d_GM_call_23 : decode prog_10_method_12_code 23 = .ok (.iload_n 1, 1) := by decide +kernel
theorem d_GM_call_24 : decode prog_10_method_12_code 24 = .ok (.iaload, 1) := by decide +kernel
theorem d_GM_call_25 : decode prog_10_method_12_code 25 = .ok (.bipush 6, 2) := by decide +kernel
theorem d_GM_call_27 : decode prog_10_method_12_code 27 = .ok (.if_icmp .ne 10, 3) := by decide +kernel
theorem d_GM_call_30 : decode prog_10_method_12_code 30 = .ok (.aload_n 0, 1) := by decide +kernel
theorem d_GM_call_31 : decode prog_10_method_12_code 31 = .ok (.bipush (-5), 2) := by decide +kernel
theorem d_GM_call_33 : decode prog_10_method_12_code 33 = .ok (.iload_n 1, 1) := by decide +kernel
theorem d_GM_call_34 : decode prog_10_method_12_code 34 = .ok (.invokevirtual 164, 3) := by decide +kernel
theorem d_GM_call_37 : decode prog_10_method_12_code 37 = .ok (.aload_n 0, 1) := by decide +kernel
theorem d_GM_call_38 : decode prog_10_method_12_code 38 = .ok (.getfield 25, 3) := by decide +kernel
theorem d_GM_call_41 : decode prog_10_method_12_code 41 = .ok (.ifCond .eq 4, 3) := by decide +kernel
theorem d_GM_call_44 : decode prog_10_method_12_code 44 = .ok (.return_, 1) := by decide +kernel
theorem d_GM_call_45 : decode prog_10_method_12_code 45 = .ok (.aload_n 0, 1) := by decide +kernel
theorem d_GM_call_46 : decode prog_10_method_12_code 46 = .ok (.getfield 75, 3) := by decide +kernel
theorem d_GM_call_49 : decode prog_10_method_12_code 49 = .ok (.iload_n 2, 1) := by decide +kernel
theorem d_GM_call_50 : decode prog_10_method_12_code 50 = .ok (.iaload, 1) := by decide +kernel
theorem d_GM_call_51 : decode prog_10_method_12_code 51 = .ok (.ifCond .le 17, 3) := by decide +kernel
theorem d_GM_call_54 : decode prog_10_method_12_code 54 = .ok (.aload_n 0, 1) := by decide +kernel
theorem d_GM_call_55 : decode prog_10_method_12_code 55 = .ok (.iload_n 1, 1) := by decide +kernel
theorem d_GM_call_56 : decode prog_10_method_12_code 56 = .ok (.aload_n 0, 1) := by decide +kernel
theorem d_GM_call_57 : decode prog_10_method_12_code 57 = .ok (.getfield 75, 3) := by decide +kernel
theorem d_GM_call_60 : decode prog_10_method_12_code 60 = .ok (.iload_n 2, 1) := by decide +kernel
theorem d_GM_call_61 : decode prog_10_method_12_code 61 = .ok (.iaload, 1) := by decide +kernel
theorem d_GM_call_62 : decode prog_10_method_12_code 62 = .ok (.invokevirtual 171, 3) := by decide +kernel
theorem d_GM_call_65 : decode prog_10_method_12_code 65 = .ok (.goto 6, 3) := by decide +kernel
theorem d_GM_call_68 : decode prog_10_method_12_code 68 = .ok (.iload_n 1, 1) := by decide +kernel
theorem d_GM_call_69 : decode prog_10_method_12_code 69 = .ok (.iconst 1, 1) := by decide +kernel
theorem d_GM_call_70 : decode prog_10_method_12_code 70 = .ok (.iadd, 1) := by decide +kernel
theorem d_GM_call_71 : decode prog_10_method_12_code 71 = .ok (.istore_n 3, 1) := by decide +kernel
theorem d_GM_call_72 : decode prog_10_method_12_code 72 = .ok (.iload_n 3, 1) := by decide +kernel
theorem d_GM_call_73 : decode prog_10_method_12_code 73 = .ok (.ifCond .ge 11, 3) := by decide +kernel
theorem d_GM_call_76 : decode prog_10_method_12_code 76 = .ok (.aload_n 0, 1) := by decide +kernel
theorem d_GM_call_77 : decode prog_10_method_12_code 77 = .ok (.bipush (-6), 2) := by decide +kernel
theorem d_GM_call_79 : decode prog_10_method_12_code 79 = .ok (.iload_n 1, 1) := by decide +kernel
theorem d_GM_call_80 : decode prog_10_method_12_code 80 = .ok (.invokevirtual 164, 3) := by decide +kernel
theorem d_GM_call_83 : decode prog_10_method_12_code 83 = .ok (.return_, 1) := by decide +kernel
theorem d_GM_call_84 : decode prog_10_method_12_code 84 = .ok (.aload_n 0, 1) := by decide +kernel
theorem d_GM_call_85 : decode prog_10_method_12_code 85 = .ok (.iload_n 1, 1) := by decide +kernel
theorem d_GM_call_86 : decode prog_10_method_12_code 86 = .ok (.iload_n 3, 1) := by decide +kernel
theorem d_GM_call_87 : decode prog_10_method_12_code 87 = .ok (.iload_n 2, 1) := by decide +kernel
theorem d_GM_call_88 : decode prog_10_method_12_code 88 = .ok (.invokevirtual 175, 3) := by decide +kernel
theorem d_GM_call_91 : decode prog_10_method_12_code 91 = .ok (.istore 4, 2) := by decide +kernel
theorem d_GM_call_93 : decode prog_10_method_12_code 93 = .ok (.aload_n 0, 1) := by decide +kernel
theorem d_GM_call_94 : decode prog_10_method_12_code 94 = .ok (.dup, 1) := by decide +kernel
theorem d_GM_call_95 : decode prog_10_method_12_code 95 = .ok (.getfield 16, 3) := by decide +kernel
theorem d_GM_call_98 : decode prog_10_method_12_code 98 = .ok (.iconst 1, 1) := by decide +kernel
theorem d_GM_call_99 : decode prog_10_method_12_code 99 = .ok (.iadd, 1) := by decide +kernel
theorem d_GM_call_100 : decode prog_10_method_12_code 100 = .ok (.putfield 16, 3) := by decide +kernel
theorem d_GM_call_103 : decode prog_10_method_12_code 103 = .ok (.aload_n 0, 1) := by decide +kernel
theorem d_GM_call_104 : decode prog_10_method_12_code 104 = .ok (.iload 4, 2) := by decide +kernel
theorem d_GM_call_106 : decode prog_10_method_12_code 106 = .ok (.putfield 13, 3) := by decide +kernel
theorem d_GM_call_109 : decode prog_10_method_12_code 109 = .ok (.iconst 0, 1) := by decide +kernel
theorem d_GM_call_110 : decode prog_10_method_12_code 110 = .ok (.istore 5, 2) := by decide +kernel
theorem d_GM_call_112 : decode prog_10_method_12_code 112 = .ok (.iload 5, 2) := by decide +kernel
theorem d_GM_call_114 : decode prog_10_method_12_code 114 = .ok (.aload_n 0, 1) := by decide +kernel
theorem d_GM_call_115 : decode prog_10_method_12_code 115 = .ok (.getfield 13, 3) := by decide +kernel
theorem d_GM_call_118 : decode prog_10_method_12_code 118 = .ok (.if_icmp .ge 59, 3) := by decide +kernel
theorem d_GM_call_121 : decode prog_10_method_12_code 121 = .ok (.iload 5, 2) := by decide +kernel
theorem d_GM_call_123 : decode prog_10_method_12_code 123 = .ok (.sipush 700, 3) := by decide +kernel
theorem d_GM_call_126 : decode prog_10_method_12_code 126 = .ok (.if_icmp .ge 51, 3) := by decide +kernel
theorem d_GM_call_129 : decode prog_10_method_12_code 129 = .ok (.aload_n 0, 1) := by decide +kernel
theorem d_GM_call_130 : decode prog_10_method_12_code 130 = .ok (.getfield 78, 3) := by decide +kernel
theorem d_GM_call_133 : decode prog_10_method_12_code 133 = .ok (.iload 5, 2) := by decide +kernel
theorem d_GM_call_135 : decode prog_10_method_12_code 135 = .ok (.aload_n 0, 1) := by decide +kernel
theorem d_GM_call_136 : decode prog_10_method_12_code 136 = .ok (.getfield 87, 3) := by decide +kernel
theorem d_GM_call_139 : decode prog_10_method_12_code 139 = .ok (.iload 5, 2) := by decide +kernel
theorem d_GM_call_141 : decode prog_10_method_12_code 141 = .ok (.iaload, 1) := by decide +kernel
theorem d_GM_call_142 : decode prog_10_method_12_code 142 = .ok (.iastore, 1) := by decide +kernel
theorem d_GM_call_143 : decode prog_10_method_12_code 143 = .ok (.aload_n 0, 1) := by decide +kernel
theorem d_GM_call_144 : decode prog_10_method_12_code 144 = .ok (.getfield 81, 3) := by decide +kernel
theorem d_GM_call_147 : decode prog_10_method_12_code 147 = .ok (.iload 5, 2) := by decide +kernel
theorem d_GM_call_149 : decode prog_10_method_12_code 149 = .ok (.aload_n 0, 1) := by decide +kernel
theorem d_GM_call_150 : decode prog_10_method_12_code 150 = .ok (.getfield 90, 3) := by decide +kernel
theorem d_GM_call_153 : decode prog_10_method_12_code 153 = .ok (.iload 5, 2) := by decide +kernel
theorem d_GM_call_155 : decode prog_10_method_12_code 155 = .ok (.iaload, 1) := by decide +kernel
theorem d_GM_call_156 : decode prog_10_method_12_code 156 = .ok (.iastore, 1) := by decide +kernel
theorem d_GM_call_157 : decode prog_10_method_12_code 157 = .ok (.aload_n 0, 1) := by decide +kernel
theorem d_GM_call_158 : decode prog_10_method_12_code 158 = .ok (.getfield 84, 3) := by decide +kernel
theorem d_GM_call_161 : decode prog_10_method_12_code 161 = .ok (.iload 5, 2) := by decide +kernel
theorem d_GM_call_163 : decode prog_10_method_12_code 163 = .ok (.aload_n 0, 1) := by decide +kernel
theorem d_GM_call_164 : decode prog_10_method_12_code 164 = .ok (.getfield 93, 3) := by decide +kernel
theorem d_GM_call_167 : decode prog_10_method_12_code 167 = .ok (.iload 5, 2) := by decide +kernel
theorem d_GM_call_169 : decode prog_10_method_12_code 169 = .ok (.iaload, 1) := by decide +kernel
theorem d_GM_call_170 : decode prog_10_method_12_code 170 = .ok (.iastore, 1) := by decide +kernel
theorem d_GM_call_171 : decode prog_10_method_12_code 171 = .ok (.iinc 5 1, 3) := by decide +kernel
theorem d_GM_call_174 : decode prog_10_method_12_code 174 = .ok (.goto (-62), 3) := by decide +kernel
theorem d_GM_call_177 : decode prog_10_method_12_code 177 = .ok (.aload_n 0, 1) := by decide +kernel
theorem d_GM_call_178 : decode prog_10_method_12_code 178 = .ok (.getfield 13, 3) := by decide +kernel
theorem d_GM_call_181 : decode prog_10_method_12_code 181 = .ok (.sipush 300, 3) := by decide +kernel
theorem d_GM_call_184 : decode prog_10_method_12_code 184 = .ok (.if_icmp .gt 12, 3) := by decide +kernel
theorem d_GM_call_187 : decode prog_10_method_12_code 187 = .ok (.aload_n 0, 1) := by decide +kernel
theorem d_GM_call_188 : decode prog_10_method_12_code 188 = .ok (.getfield 16, 3) := by decide +kernel
theorem d_GM_call_191 : decode prog_10_method_12_code 191 = .ok (.bipush 101, 2) := by decide +kernel
theorem d_GM_call_193 : decode prog_10_method_12_code 193 = .ok (.if_icmp .ne 10, 3) := by decide +kernel
theorem d_GM_call_196 : decode prog_10_method_12_code 196 = .ok (.aload_n 0, 1) := by decide +kernel
theorem d_GM_call_197 : decode prog_10_method_12_code 197 = .ok (.bipush (-7), 2) := by decide +kernel
theorem d_GM_call_199 : decode prog_10_method_12_code 199 = .ok (.iload_n 1, 1) := by decide +kernel
theorem d_GM_call_200 : decode prog_10_method_12_code 200 = .ok (.invokevirtual 164, 3) := by decide +kernel
theorem d_GM_call_203 : decode prog_10_method_12_code 203 = .ok (.return_, 1) := by decide +kernel
theorem GM_o1 : Cond.methodLink "GlyphCompilerModel" 1 objectInit ∈ jTs ∧ Cond.instanceMethod objectInit ∈ jTs ∧ Cond.code objectInit ⟨#[0xb1]⟩ 1 none ∈ jTs := ⟨(jin_t (jin_3 121 rfl) rfl), (jin_t (jin_1 20 rfl) rfl), (jin_t (jin_1 21 rfl) rfl)⟩
theorem GM_w7 (y : MethodName) (h : y.cls = "GlyphCompilerModel") : jFw y 7 8 0 .int := ⟨R_GM, T_GM, 46, rfl, Nat.le_of_ble_eq_true rfl, by decide +kernel, Or.inl ⟨rfl, Or.inl (by rw [h]; exact (jin_t (jin_3 122 rfl) rfl))⟩⟩
theorem GM_w13 (y : MethodName) (h : y.cls = "GlyphCompilerModel") : jFw y 13 8 1 .int := ⟨R_GM, T_GM, 46, rfl, Nat.le_of_ble_eq_true rfl, by decide +kernel, Or.inl ⟨rfl, Or.inl (by rw [h]; exact (jin_t (jin_3 123 rfl) rfl))⟩⟩
theorem GM_w16 (y : MethodName) (h : y.cls = "GlyphCompilerModel") : jFw y 16 8 2 .int := ⟨R_GM, T_GM, 46, rfl, Nat.le_of_ble_eq_true rfl, by decide +kernel, Or.inl ⟨rfl, Or.inl (by rw [h]; exact (jin_t (jin_3 124 rfl) rfl))⟩⟩
theorem GM_w19 (y : MethodName) (h : y.cls = "GlyphCompilerModel") : jFw y 19 8 3 .int := ⟨R_GM, T_GM, 46, rfl, Nat.le_of_ble_eq_true rfl, by decide +kernel, Or.inl ⟨rfl, Or.inl (by rw [h]; exact (jin_t (jin_3 125 rfl) rfl))⟩⟩
theorem GM_w22 (y : MethodName) (h : y.cls = "GlyphCompilerModel") : jFw y 22 8 4 .int := ⟨R_GM, T_GM, 46, rfl, Nat.le_of_ble_eq_true rfl, by decide +kernel, Or.inl ⟨rfl, Or.inl (by rw [h]; exact (jin_t (jin_3 126 rfl) rfl))⟩⟩
theorem GM_w25 (y : MethodName) (h : y.cls = "GlyphCompilerModel") : jFw y 25 8 5 .int := ⟨R_GM, T_GM, 46, rfl, Nat.le_of_ble_eq_true rfl, by decide +kernel, Or.inl ⟨rfl, Or.inl (by rw [h]; exact (jin_t (jin_3 127 rfl) rfl))⟩⟩
theorem GM_w28 (y : MethodName) (h : y.cls = "GlyphCompilerModel") : jFw y 28 8 6 .int := ⟨R_GM, T_GM, 46, rfl, Nat.le_of_ble_eq_true rfl, by decide +kernel, Or.inl ⟨rfl, Or.inl (by rw [h]; exact (jin_t (jin_3 128 rfl) rfl))⟩⟩
theorem GM_w31 (y : MethodName) (h : y.cls = "GlyphCompilerModel") : jFw y 31 8 7 .int := ⟨R_GM, T_GM, 46, rfl, Nat.le_of_ble_eq_true rfl, by decide +kernel, Or.inl ⟨rfl, Or.inl (by rw [h]; exact (jin_t (jin_3 129 rfl) rfl))⟩⟩
theorem GM_w34 (y : MethodName) (h : y.cls = "GlyphCompilerModel") : jFw y 34 8 8 .int := ⟨R_GM, T_GM, 46, rfl, Nat.le_of_ble_eq_true rfl, by decide +kernel, Or.inl ⟨rfl, Or.inl (by rw [h]; exact (jin_t (jin_3 130 rfl) rfl))⟩⟩
theorem GM_w37 (y : MethodName) (h : y.cls = "GlyphCompilerModel") : jFw y 37 8 9 .int := ⟨R_GM, T_GM, 46, rfl, Nat.le_of_ble_eq_true rfl, by decide +kernel, Or.inl ⟨rfl, Or.inl (by rw [h]; exact (jin_t (jin_3 131 rfl) rfl))⟩⟩
theorem GM_w40 (y : MethodName) (h : y.cls = "GlyphCompilerModel") : jFw y 40 8 10 .int := ⟨R_GM, T_GM, 46, rfl, Nat.le_of_ble_eq_true rfl, by decide +kernel, Or.inl ⟨rfl, Or.inl (by rw [h]; exact (jin_t (jin_3 132 rfl) rfl))⟩⟩
theorem GM_w43 (y : MethodName) (h : y.cls = "GlyphCompilerModel") : jFw y 43 8 11 .int := ⟨R_GM, T_GM, 46, rfl, Nat.le_of_ble_eq_true rfl, by decide +kernel, Or.inl ⟨rfl, Or.inl (by rw [h]; exact (jin_t (jin_3 133 rfl) rfl))⟩⟩
theorem GM_w46 (y : MethodName) (h : y.cls = "GlyphCompilerModel") : jFw y 46 8 12 .int := ⟨R_GM, T_GM, 46, rfl, Nat.le_of_ble_eq_true rfl, by decide +kernel, Or.inl ⟨rfl, Or.inl (by rw [h]; exact (jin_t (jin_3 134 rfl) rfl))⟩⟩
theorem GM_w49 (y : MethodName) (h : y.cls = "GlyphCompilerModel") : jFw y 49 8 13 .int := ⟨R_GM, T_GM, 46, rfl, Nat.le_of_ble_eq_true rfl, by decide +kernel, Or.inl ⟨rfl, Or.inl (by rw [h]; exact (jin_t (jin_3 135 rfl) rfl))⟩⟩
theorem GM_w52 (y : MethodName) (h : y.cls = "GlyphCompilerModel") : jFw y 52 8 14 .int := ⟨R_GM, T_GM, 46, rfl, Nat.le_of_ble_eq_true rfl, by decide +kernel, Or.inl ⟨rfl, Or.inl (by rw [h]; exact (jin_t (jin_3 136 rfl) rfl))⟩⟩
theorem GM_w55 (y : MethodName) (h : y.cls = "GlyphCompilerModel") : jFw y 55 8 15 .boolean := ⟨R_GM, T_GM, 46, rfl, Nat.le_of_ble_eq_true rfl, by decide +kernel, Or.inl ⟨rfl, Or.inl (by rw [h]; exact (jin_t (jin_3 137 rfl) rfl))⟩⟩
theorem GM_w59 (y : MethodName) (h : y.cls = "GlyphCompilerModel") (h2 : y.name = "<init>") : jFw y 59 8 16 (.array .int) := ⟨R_GM, T_GM, 46, rfl, Nat.le_of_ble_eq_true rfl, by decide +kernel, Or.inr ⟨rfl, h2, h.symm, by rw [h]; exact (jin_t (jin_3 138 rfl) rfl)⟩⟩
theorem GM_w63 (y : MethodName) (h : y.cls = "GlyphCompilerModel") (h2 : y.name = "<init>") : jFw y 63 8 17 (.array .int) := ⟨R_GM, T_GM, 46, rfl, Nat.le_of_ble_eq_true rfl, by decide +kernel, Or.inr ⟨rfl, h2, h.symm, by rw [h]; exact (jin_t (jin_3 139 rfl) rfl)⟩⟩
theorem GM_w66 (y : MethodName) (h : y.cls = "GlyphCompilerModel") (h2 : y.name = "<init>") : jFw y 66 8 18 (.array .int) := ⟨R_GM, T_GM, 46, rfl, Nat.le_of_ble_eq_true rfl, by decide +kernel, Or.inr ⟨rfl, h2, h.symm, by rw [h]; exact (jin_t (jin_3 140 rfl) rfl)⟩⟩
theorem GM_w69 (y : MethodName) (h : y.cls = "GlyphCompilerModel") (h2 : y.name = "<init>") : jFw y 69 8 19 (.array .int) := ⟨R_GM, T_GM, 46, rfl, Nat.le_of_ble_eq_true rfl, by decide +kernel, Or.inr ⟨rfl, h2, h.symm, by rw [h]; exact (jin_t (jin_3 141 rfl) rfl)⟩⟩
theorem GM_w72 (y : MethodName) (h : y.cls = "GlyphCompilerModel") (h2 : y.name = "<init>") : jFw y 72 8 20 (.array .int) := ⟨R_GM, T_GM, 46, rfl, Nat.le_of_ble_eq_true rfl, by decide +kernel, Or.inr ⟨rfl, h2, h.symm, by rw [h]; exact (jin_t (jin_3 142 rfl) rfl)⟩⟩
theorem GM_w75 (y : MethodName) (h : y.cls = "GlyphCompilerModel") (h2 : y.name = "<init>") : jFw y 75 8 21 (.array .int) := ⟨R_GM, T_GM, 46, rfl, Nat.le_of_ble_eq_true rfl, by decide +kernel, Or.inr ⟨rfl, h2, h.symm, by rw [h]; exact (jin_t (jin_3 143 rfl) rfl)⟩⟩
theorem GM_w78 (y : MethodName) (h : y.cls = "GlyphCompilerModel") (h2 : y.name = "<init>") : jFw y 78 8 22 (.array .int) := ⟨R_GM, T_GM, 46, rfl, Nat.le_of_ble_eq_true rfl, by decide +kernel, Or.inr ⟨rfl, h2, h.symm, by rw [h]; exact (jin_t (jin_3 144 rfl) rfl)⟩⟩
theorem GM_w81 (y : MethodName) (h : y.cls = "GlyphCompilerModel") (h2 : y.name = "<init>") : jFw y 81 8 23 (.array .int) := ⟨R_GM, T_GM, 46, rfl, Nat.le_of_ble_eq_true rfl, by decide +kernel, Or.inr ⟨rfl, h2, h.symm, by rw [h]; exact (jin_t (jin_3 145 rfl) rfl)⟩⟩
theorem GM_w84 (y : MethodName) (h : y.cls = "GlyphCompilerModel") (h2 : y.name = "<init>") : jFw y 84 8 24 (.array .int) := ⟨R_GM, T_GM, 46, rfl, Nat.le_of_ble_eq_true rfl, by decide +kernel, Or.inr ⟨rfl, h2, h.symm, by rw [h]; exact (jin_t (jin_3 146 rfl) rfl)⟩⟩
theorem GM_w87 (y : MethodName) (h : y.cls = "GlyphCompilerModel") (h2 : y.name = "<init>") : jFw y 87 8 25 (.array .int) := ⟨R_GM, T_GM, 46, rfl, Nat.le_of_ble_eq_true rfl, by decide +kernel, Or.inr ⟨rfl, h2, h.symm, by rw [h]; exact (jin_t (jin_3 147 rfl) rfl)⟩⟩
theorem GM_w90 (y : MethodName) (h : y.cls = "GlyphCompilerModel") (h2 : y.name = "<init>") : jFw y 90 8 26 (.array .int) := ⟨R_GM, T_GM, 46, rfl, Nat.le_of_ble_eq_true rfl, by decide +kernel, Or.inr ⟨rfl, h2, h.symm, by rw [h]; exact (jin_t (jin_3 148 rfl) rfl)⟩⟩
theorem GM_w93 (y : MethodName) (h : y.cls = "GlyphCompilerModel") (h2 : y.name = "<init>") : jFw y 93 8 27 (.array .int) := ⟨R_GM, T_GM, 46, rfl, Nat.le_of_ble_eq_true rfl, by decide +kernel, Or.inr ⟨rfl, h2, h.symm, by rw [h]; exact (jin_t (jin_3 149 rfl) rfl)⟩⟩
theorem GM_w96 (y : MethodName) (h : y.cls = "GlyphCompilerModel") (h2 : y.name = "<init>") : jFw y 96 8 28 (.array .int) := ⟨R_GM, T_GM, 46, rfl, Nat.le_of_ble_eq_true rfl, by decide +kernel, Or.inr ⟨rfl, h2, h.symm, by rw [h]; exact (jin_t (jin_3 150 rfl) rfl)⟩⟩
theorem GM_w99 (y : MethodName) (h : y.cls = "GlyphCompilerModel") (h2 : y.name = "<init>") : jFw y 99 8 29 (.array .int) := ⟨R_GM, T_GM, 46, rfl, Nat.le_of_ble_eq_true rfl, by decide +kernel, Or.inr ⟨rfl, h2, h.symm, by rw [h]; exact (jin_t (jin_3 151 rfl) rfl)⟩⟩
theorem GM_w102 (y : MethodName) (h : y.cls = "GlyphCompilerModel") (h2 : y.name = "<init>") : jFw y 102 8 30 (.array .int) := ⟨R_GM, T_GM, 46, rfl, Nat.le_of_ble_eq_true rfl, by decide +kernel, Or.inr ⟨rfl, h2, h.symm, by rw [h]; exact (jin_t (jin_3 152 rfl) rfl)⟩⟩
theorem GM_w105 (y : MethodName) (h : y.cls = "GlyphCompilerModel") (h2 : y.name = "<init>") : jFw y 105 8 31 (.array .long) := ⟨R_GM, T_GM, 46, rfl, Nat.le_of_ble_eq_true rfl, by decide +kernel, Or.inr ⟨rfl, h2, h.symm, by rw [h]; exact (jin_t (jin_3 153 rfl) rfl)⟩⟩
theorem GM_w109 (y : MethodName) (h : y.cls = "GlyphCompilerModel") (h2 : y.name = "<init>") : jFw y 109 8 32 (.array .long) := ⟨R_GM, T_GM, 46, rfl, Nat.le_of_ble_eq_true rfl, by decide +kernel, Or.inr ⟨rfl, h2, h.symm, by rw [h]; exact (jin_t (jin_3 154 rfl) rfl)⟩⟩
theorem GM_w112 (y : MethodName) (h : y.cls = "GlyphCompilerModel") (h2 : y.name = "<init>") : jFw y 112 8 33 (.array .long) := ⟨R_GM, T_GM, 46, rfl, Nat.le_of_ble_eq_true rfl, by decide +kernel, Or.inr ⟨rfl, h2, h.symm, by rw [h]; exact (jin_t (jin_3 155 rfl) rfl)⟩⟩
theorem GM_w115 (y : MethodName) (h : y.cls = "GlyphCompilerModel") (h2 : y.name = "<init>") : jFw y 115 8 34 (.array .long) := ⟨R_GM, T_GM, 46, rfl, Nat.le_of_ble_eq_true rfl, by decide +kernel, Or.inr ⟨rfl, h2, h.symm, by rw [h]; exact (jin_t (jin_3 156 rfl) rfl)⟩⟩
theorem GM_w118 (y : MethodName) (h : y.cls = "GlyphCompilerModel") (h2 : y.name = "<init>") : jFw y 118 8 35 (.array .long) := ⟨R_GM, T_GM, 46, rfl, Nat.le_of_ble_eq_true rfl, by decide +kernel, Or.inr ⟨rfl, h2, h.symm, by rw [h]; exact (jin_t (jin_3 157 rfl) rfl)⟩⟩
theorem GM_w121 (y : MethodName) (h : y.cls = "GlyphCompilerModel") (h2 : y.name = "<init>") : jFw y 121 8 36 (.array .int) := ⟨R_GM, T_GM, 46, rfl, Nat.le_of_ble_eq_true rfl, by decide +kernel, Or.inr ⟨rfl, h2, h.symm, by rw [h]; exact (jin_t (jin_3 158 rfl) rfl)⟩⟩
theorem GM_w124 (y : MethodName) (h : y.cls = "GlyphCompilerModel") (h2 : y.name = "<init>") : jFw y 124 8 37 (.array .int) := ⟨R_GM, T_GM, 46, rfl, Nat.le_of_ble_eq_true rfl, by decide +kernel, Or.inr ⟨rfl, h2, h.symm, by rw [h]; exact (jin_t (jin_3 159 rfl) rfl)⟩⟩
theorem GM_w127 (y : MethodName) (h : y.cls = "GlyphCompilerModel") (h2 : y.name = "<init>") : jFw y 127 8 38 (.array .long) := ⟨R_GM, T_GM, 46, rfl, Nat.le_of_ble_eq_true rfl, by decide +kernel, Or.inr ⟨rfl, h2, h.symm, by rw [h]; exact (jin_t (jin_3 160 rfl) rfl)⟩⟩
theorem GM_w130 (y : MethodName) (h : y.cls = "GlyphCompilerModel") (h2 : y.name = "<init>") : jFw y 130 8 39 (.array .long) := ⟨R_GM, T_GM, 46, rfl, Nat.le_of_ble_eq_true rfl, by decide +kernel, Or.inr ⟨rfl, h2, h.symm, by rw [h]; exact (jin_t (jin_3 161 rfl) rfl)⟩⟩
theorem GM_w133 (y : MethodName) (h : y.cls = "GlyphCompilerModel") (h2 : y.name = "<init>") : jFw y 133 8 40 (.array .long) := ⟨R_GM, T_GM, 46, rfl, Nat.le_of_ble_eq_true rfl, by decide +kernel, Or.inr ⟨rfl, h2, h.symm, by rw [h]; exact (jin_t (jin_3 162 rfl) rfl)⟩⟩
theorem GM_w136 (y : MethodName) (h : y.cls = "GlyphCompilerModel") (h2 : y.name = "<init>") : jFw y 136 8 41 (.array .long) := ⟨R_GM, T_GM, 46, rfl, Nat.le_of_ble_eq_true rfl, by decide +kernel, Or.inr ⟨rfl, h2, h.symm, by rw [h]; exact (jin_t (jin_3 163 rfl) rfl)⟩⟩
theorem GM_w139 (y : MethodName) (h : y.cls = "GlyphCompilerModel") (h2 : y.name = "<init>") : jFw y 139 8 42 (.array .long) := ⟨R_GM, T_GM, 46, rfl, Nat.le_of_ble_eq_true rfl, by decide +kernel, Or.inr ⟨rfl, h2, h.symm, by rw [h]; exact (jin_t (jin_3 164 rfl) rfl)⟩⟩
theorem GM_w142 (y : MethodName) (h : y.cls = "GlyphCompilerModel") (h2 : y.name = "<init>") : jFw y 142 8 43 (.array .long) := ⟨R_GM, T_GM, 46, rfl, Nat.le_of_ble_eq_true rfl, by decide +kernel, Or.inr ⟨rfl, h2, h.symm, by rw [h]; exact (jin_t (jin_3 165 rfl) rfl)⟩⟩
theorem GM_w145 (y : MethodName) (h : y.cls = "GlyphCompilerModel") (h2 : y.name = "<init>") : jFw y 145 8 44 (.array .int) := ⟨R_GM, T_GM, 46, rfl, Nat.le_of_ble_eq_true rfl, by decide +kernel, Or.inr ⟨rfl, h2, h.symm, by rw [h]; exact (jin_t (jin_3 166 rfl) rfl)⟩⟩
theorem GM_w148 (y : MethodName) (h : y.cls = "GlyphCompilerModel") (h2 : y.name = "<init>") : jFw y 148 8 45 (.array .boolean) := ⟨R_GM, T_GM, 46, rfl, Nat.le_of_ble_eq_true rfl, by decide +kernel, Or.inr ⟨rfl, h2, h.symm, by rw [h]; exact (jin_t (jin_3 167 rfl) rfl)⟩⟩
theorem GM_f72 : jFl "GlyphCompilerModel" 72 8 20 := ⟨R_GM, T_GM, 46, rfl, Nat.le_of_ble_eq_true rfl, Or.inl (jin_t (jin_3 142 rfl) rfl)⟩
theorem GM_c152 : jLk "GlyphCompilerModel" 152 Y_GM_out := Or.inl (jin_t (jin_4 25 rfl) rfl)
theorem GM_f7 : jFl "GlyphCompilerModel" 7 8 0 := ⟨R_GM, T_GM, 46, rfl, Nat.le_of_ble_eq_true rfl, Or.inl (jin_t (jin_3 122 rfl) rfl)⟩
theorem GM_f59 : jFl "GlyphCompilerModel" 59 8 16 := ⟨R_GM, T_GM, 46, rfl, Nat.le_of_ble_eq_true rfl, Or.inl (jin_t (jin_3 138 rfl) rfl)⟩
theorem GM_f63 : jFl "GlyphCompilerModel" 63 8 17 := ⟨R_GM, T_GM, 46, rfl, Nat.le_of_ble_eq_true rfl, Or.inl (jin_t (jin_3 139 rfl) rfl)⟩
theorem GM_f66 : jFl "GlyphCompilerModel" 66 8 18 := ⟨R_GM, T_GM, 46, rfl, Nat.le_of_ble_eq_true rfl, Or.inl (jin_t (jin_3 140 rfl) rfl)⟩
theorem GM_f69 : jFl "GlyphCompilerModel" 69 8 19 := ⟨R_GM, T_GM, 46, rfl, Nat.le_of_ble_eq_true rfl, Or.inl (jin_t (jin_3 141 rfl) rfl)⟩
theorem GM_f75 : jFl "GlyphCompilerModel" 75 8 21 := ⟨R_GM, T_GM, 46, rfl, Nat.le_of_ble_eq_true rfl, Or.inl (jin_t (jin_3 143 rfl) rfl)⟩
theorem GM_c329 : jLk "GlyphCompilerModel" 329 Y_GM_expand := Or.inl (jin_t (jin_4 41 rfl) rfl)
theorem GM_f25 : jFl "GlyphCompilerModel" 25 8 5 := ⟨R_GM, T_GM, 46, rfl, Nat.le_of_ble_eq_true rfl, Or.inl (jin_t (jin_3 127 rfl) rfl)⟩
theorem GM_f22 : jFl "GlyphCompilerModel" 22 8 4 := ⟨R_GM, T_GM, 46, rfl, Nat.le_of_ble_eq_true rfl, Or.inl (jin_t (jin_3 126 rfl) rfl)⟩
theorem GM_f13 : jFl "GlyphCompilerModel" 13 8 1 := ⟨R_GM, T_GM, 46, rfl, Nat.le_of_ble_eq_true rfl, Or.inl (jin_t (jin_3 123 rfl) rfl)⟩
theorem GM_c332 : jLk "GlyphCompilerModel" 332 Y_GM_statement := Or.inl (jin_t (jin_4 69 rfl) rfl)
theorem GM_f28 : jFl "GlyphCompilerModel" 28 8 6 := ⟨R_GM, T_GM, 46, rfl, Nat.le_of_ble_eq_true rfl, Or.inl (jin_t (jin_3 128 rfl) rfl)⟩
theorem GM_f78 : jFl "GlyphCompilerModel" 78 8 22 := ⟨R_GM, T_GM, 46, rfl, Nat.le_of_ble_eq_true rfl, Or.inl (jin_t (jin_3 144 rfl) rfl)⟩
theorem GM_f81 : jFl "GlyphCompilerModel" 81 8 23 := ⟨R_GM, T_GM, 46, rfl, Nat.le_of_ble_eq_true rfl, Or.inl (jin_t (jin_3 145 rfl) rfl)⟩
theorem GM_f84 : jFl "GlyphCompilerModel" 84 8 24 := ⟨R_GM, T_GM, 46, rfl, Nat.le_of_ble_eq_true rfl, Or.inl (jin_t (jin_3 146 rfl) rfl)⟩
theorem GM_c164 : jLk "GlyphCompilerModel" 164 Y_GM_stop := Or.inl (jin_t (jin_4 45 rfl) rfl)
theorem GM_c168 : jLk "GlyphCompilerModel" 168 Y_GM_call := Or.inl (jin_t (jin_4 49 rfl) rfl)
theorem GM_c171 : jLk "GlyphCompilerModel" 171 Y_GM_arguments := Or.inl (jin_t (jin_4 53 rfl) rfl)
theorem GM_c175 : jLk "GlyphCompilerModel" 175 Y_GM_replace := Or.inl (jin_t (jin_4 61 rfl) rfl)
theorem GM_f16 : jFl "GlyphCompilerModel" 16 8 2 := ⟨R_GM, T_GM, 46, rfl, Nat.le_of_ble_eq_true rfl, Or.inl (jin_t (jin_3 124 rfl) rfl)⟩
theorem GM_f87 : jFl "GlyphCompilerModel" 87 8 25 := ⟨R_GM, T_GM, 46, rfl, Nat.le_of_ble_eq_true rfl, Or.inl (jin_t (jin_3 147 rfl) rfl)⟩
theorem GM_f90 : jFl "GlyphCompilerModel" 90 8 26 := ⟨R_GM, T_GM, 46, rfl, Nat.le_of_ble_eq_true rfl, Or.inl (jin_t (jin_3 148 rfl) rfl)⟩
theorem GM_f93 : jFl "GlyphCompilerModel" 93 8 27 := ⟨R_GM, T_GM, 46, rfl, Nat.le_of_ble_eq_true rfl, Or.inl (jin_t (jin_3 149 rfl) rfl)⟩
theorem yk_GM_init : jYok Y_GM_init 0 := ⟨(jin_t (jin_3 120 rfl) rfl), (jin_t (jin_1 9 rfl) rfl), ⟨by decide +kernel, by decide +kernel⟩, by decide +kernel⟩
theorem yv_GM_init : Cond.instanceMethod (yN Y_GM_init) ∈ jTs := (jin_t (jin_3 119 rfl) rfl)
theorem yk_GM_feed : jYok Y_GM_feed 2 := ⟨(jin_t (jin_4 24 rfl) rfl), (jin_t (jin_1 9 rfl) rfl), ⟨by decide +kernel, by decide +kernel⟩, by decide +kernel⟩
theorem yv_GM_feed : Cond.instanceMethod (yN Y_GM_feed) ∈ jTs ∧ Cond.selects (yN Y_GM_feed).cls (yN Y_GM_feed) (yN Y_GM_feed) ∈ jTs := ⟨(jin_t (jin_4 22 rfl) rfl), (jin_t (jin_4 23 rfl) rfl)⟩
theorem yk_GM_out : jYok Y_GM_out 3 := ⟨(jin_t (jin_4 28 rfl) rfl), (jin_t (jin_1 9 rfl) rfl), ⟨by decide +kernel, by decide +kernel⟩, by decide +kernel⟩
theorem yv_GM_out : Cond.instanceMethod (yN Y_GM_out) ∈ jTs ∧ Cond.selects (yN Y_GM_out).cls (yN Y_GM_out) (yN Y_GM_out) ∈ jTs := ⟨(jin_t (jin_4 27 rfl) rfl), (jin_p (List.mem_map.mpr ⟨(({ cls := "GlyphCompilerModel", name := "out", desc := "(III)Z" } : Jvm.MethodName), 46), by decide +kernel, rfl⟩) rfl)⟩
theorem yk_GM_wipe : jYok Y_GM_wipe 0 := ⟨(jin_t (jin_4 32 rfl) rfl), (jin_t (jin_1 9 rfl) rfl), ⟨by decide +kernel, by decide +kernel⟩, by decide +kernel⟩
theorem yv_GM_wipe : Cond.instanceMethod (yN Y_GM_wipe) ∈ jTs ∧ Cond.selects (yN Y_GM_wipe).cls (yN Y_GM_wipe) (yN Y_GM_wipe) ∈ jTs := ⟨(jin_t (jin_4 30 rfl) rfl), (jin_t (jin_4 31 rfl) rfl)⟩
theorem yk_GM_macro : jYok Y_GM_macro 2 := ⟨(jin_t (jin_4 36 rfl) rfl), (jin_t (jin_1 9 rfl) rfl), ⟨by decide +kernel, by decide +kernel⟩, by decide +kernel⟩
theorem yv_GM_macro : Cond.instanceMethod (yN Y_GM_macro) ∈ jTs ∧ Cond.selects (yN Y_GM_macro).cls (yN Y_GM_macro) (yN Y_GM_macro) ∈ jTs := ⟨(jin_t (jin_4 34 rfl) rfl), (jin_t (jin_4 35 rfl) rfl)⟩
theorem yk_GM_run : jYok Y_GM_run 0 := ⟨(jin_t (jin_4 40 rfl) rfl), (jin_t (jin_1 9 rfl) rfl), ⟨by decide +kernel, by decide +kernel⟩, by decide +kernel⟩
theorem yv_GM_run : Cond.instanceMethod (yN Y_GM_run) ∈ jTs ∧ Cond.selects (yN Y_GM_run).cls (yN Y_GM_run) (yN Y_GM_run) ∈ jTs := ⟨(jin_t (jin_4 38 rfl) rfl), (jin_t (jin_4 39 rfl) rfl)⟩
theorem yk_GM_expand : jYok Y_GM_expand 0 := ⟨(jin_t (jin_4 44 rfl) rfl), (jin_t (jin_1 9 rfl) rfl), ⟨by decide +kernel, by decide +kernel⟩, by decide +kernel⟩
theorem yv_GM_expand : Cond.instanceMethod (yN Y_GM_expand) ∈ jTs ∧ Cond.selects (yN Y_GM_expand).cls (yN Y_GM_expand) (yN Y_GM_expand) ∈ jTs := ⟨(jin_t (jin_4 43 rfl) rfl), (jin_p (List.mem_map.mpr ⟨(({ cls := "GlyphCompilerModel", name := "expand", desc := "()V" } : Jvm.MethodName), 46), by decide +kernel, rfl⟩) rfl)⟩
theorem yk_GM_stop : jYok Y_GM_stop 2 := ⟨(jin_t (jin_4 48 rfl) rfl), (jin_t (jin_1 9 rfl) rfl), ⟨by decide +kernel, by decide +kernel⟩, by decide +kernel⟩
theorem yv_GM_stop : Cond.instanceMethod (yN Y_GM_stop) ∈ jTs ∧ Cond.selects (yN Y_GM_stop).cls (yN Y_GM_stop) (yN Y_GM_stop) ∈ jTs := ⟨(jin_t (jin_4 47 rfl) rfl), (jin_p (List.mem_map.mpr ⟨(({ cls := "GlyphCompilerModel", name := "stop", desc := "(II)V" } : Jvm.MethodName), 46), by decide +kernel, rfl⟩) rfl)⟩
theorem yk_GM_call : jYok Y_GM_call 2 := ⟨(jin_t (jin_4 52 rfl) rfl), (jin_t (jin_1 9 rfl) rfl), ⟨by decide +kernel, by decide +kernel⟩, by decide +kernel⟩
theorem yv_GM_call : Cond.instanceMethod (yN Y_GM_call) ∈ jTs ∧ Cond.selects (yN Y_GM_call).cls (yN Y_GM_call) (yN Y_GM_call) ∈ jTs := ⟨(jin_t (jin_4 51 rfl) rfl), (jin_p (List.mem_map.mpr ⟨(({ cls := "GlyphCompilerModel", name := "call", desc := "(II)V" } : Jvm.MethodName), 46), by decide +kernel, rfl⟩) rfl)⟩
