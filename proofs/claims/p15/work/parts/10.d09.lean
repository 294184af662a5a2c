theorem d_GM_begin_0 : decode prog_10_method_30_code 0 = .ok (.aload_n 0, 1) := by decide +kernel
theorem d_GM_begin_1 : decode prog_10_method_30_code 1 = .ok (.getfield 25, 3) := by decide +kernel
theorem d_GM_begin_4 : decode prog_10_method_30_code 4 = .ok (.ifCond .eq 5, 3) := by decide +kernel
theorem d_GM_begin_7 : decode prog_10_method_30_code 7 = .ok (.iconst 0, 1) := by decide +kernel
theorem d_GM_begin_8 : decode prog_10_method_30_code 8 = .ok (.ireturn, 1) := by decide +kernel
theorem d_GM_begin_9 : decode prog_10_method_30_code 9 = .ok (.aload_n 0, 1) := by decide +kernel
theorem d_GM_begin_10 : decode prog_10_method_30_code 10 = .ok (.iconst 1, 1) := by decide +kernel
theorem d_GM_begin_11 : decode prog_10_method_30_code 11 = .ok (.invokevirtual 201, 3) := by decide +kernel
theorem d_GM_begin_14 : decode prog_10_method_30_code 14 = .ok (.ifCond .eq 20, 3) := by decide +kernel
theorem d_GM_begin_17 : decode prog_10_method_30_code 17 = .ok (.aload_n 0, 1) := by decide +kernel
theorem d_GM_begin_18 : decode prog_10_method_30_code 18 = .ok (.iconst 3, 1) := by decide +kernel
theorem d_GM_begin_19 : decode prog_10_method_30_code 19 = .ok (.invokevirtual 208, 3) := by decide +kernel
theorem d_GM_begin_22 : decode prog_10_method_30_code 22 = .ok (.aload_n 0, 1) := by decide +kernel
theorem d_GM_begin_23 : decode prog_10_method_30_code 23 = .ok (.dup, 1) := by decide +kernel
theorem d_GM_begin_24 : decode prog_10_method_30_code 24 = .ok (.getfield 22, 3) := by decide +kernel
theorem d_GM_begin_27 : decode prog_10_method_30_code 27 = .ok (.iconst 1, 1) := by decide +kernel
theorem d_GM_begin_28 : decode prog_10_method_30_code 28 = .ok (.iadd, 1) := by decide +kernel
theorem d_GM_begin_29 : decode prog_10_method_30_code 29 = .ok (.putfield 22, 3) := by decide +kernel
theorem d_GM_begin_32 : decode prog_10_method_30_code 32 = .ok (.iconst 0, 1) := by decide +kernel
theorem d_GM_begin_33 : decode prog_10_method_30_code 33 = .ok (.ireturn, 1) := by decide +kernel
theorem d_GM_begin_34 : decode prog_10_method_30_code 34 = .ok (.aload_n 0, 1) := by decide +kernel
theorem d_GM_begin_35 : decode prog_10_method_30_code 35 = .ok (.getfield 22, 3) := by decide +kernel
theorem d_GM_begin_38 : decode prog_10_method_30_code 38 = .ok (.aload_n 0, 1) := by decide +kernel
theorem d_GM_begin_39 : decode prog_10_method_30_code 39 = .ok (.getfield 13, 3) := by decide +kernel
theorem d_GM_begin_42 : decode prog_10_method_30_code 42 = .ok (.if_icmp .ge 177, 3) := by decide +kernel
theorem d_GM_begin_45 : decode prog_10_method_30_code 45 = .ok (.aload_n 0, 1) := by decide +kernel
theorem d_GM_begin_46 : decode prog_10_method_30_code 46 = .ok (.getfield 78, 3) := by decide +kernel
theorem d_GM_begin_49 : decode prog_10_method_30_code 49 = .ok (.aload_n 0, 1) := by decide +kernel
theorem d_GM_begin_50 : decode prog_10_method_30_code 50 = .ok (.getfield 22, 3) := by decide +kernel
theorem d_GM_begin_53 : decode prog_10_method_30_code 53 = .ok (.iaload, 1) := by decide +kernel
theorem d_GM_begin_54 : decode prog_10_method_30_code 54 = .ok (.ifCond .ne 165, 3) := by decide +kernel
theorem d_GM_begin_57 : decode prog_10_method_30_code 57 = .ok (.aload_n 0, 1) := by decide +kernel
theorem d_GM_begin_58 : decode prog_10_method_30_code 58 = .ok (.getfield 81, 3) := by decide +kernel
theorem d_GM_begin_61 : decode prog_10_method_30_code 61 = .ok (.aload_n 0, 1) := by decide +kernel
theorem d_GM_begin_62 : decode prog_10_method_30_code 62 = .ok (.getfield 22, 3) := by decide +kernel
theorem d_GM_begin_65 : decode prog_10_method_30_code 65 = .ok (.iaload, 1) := by decide +kernel
theorem d_GM_begin_66 : decode prog_10_method_30_code 66 = .ok (.i2l, 1) := by decide +kernel
theorem d_GM_begin_67 : decode prog_10_method_30_code 67 = .ok (.ldc2_w 211, 3) := by decide +kernel
theorem d_GM_begin_70 : decode prog_10_method_30_code 70 = .ok (.lmul, 1) := by decide +kernel
theorem d_GM_begin_71 : decode prog_10_method_30_code 71 = .ok (.lstore_n 1, 1) := by decide +kernel
theorem d_GM_begin_72 : decode prog_10_method_30_code 72 = .ok (.aload_n 0, 1) := by decide +kernel
theorem d_GM_begin_73 : decode prog_10_method_30_code 73 = .ok (.dup, 1) := by decide +kernel
theorem d_GM_begin_74 : decode prog_10_method_30_code 74 = .ok (.getfield 22, 3) := by decide +kernel
theorem d_GM_begin_77 : decode prog_10_method_30_code 77 = .ok (.iconst 1, 1) := by decide +kernel
theorem d_GM_begin_78 : decode prog_10_method_30_code 78 = .ok (.iadd, 1) := by decide +kernel
theorem d_GM_begin_79 : decode prog_10_method_30_code 79 = .ok (.putfield 22, 3) := by decide +kernel
theorem d_GM_begin_82 : decode prog_10_method_30_code 82 = .ok (.aload_n 0, 1) := by decide +kernel
theorem d_GM_begin_83 : decode prog_10_method_30_code 83 = .ok (.bipush 13, 2) := by decide +kernel
theorem d_GM_begin_85 : decode prog_10_method_30_code 85 = .ok (.invokevirtual 201, 3) := by decide +kernel
theorem d_GM_begin_88 : decode prog_10_method_30_code 88 = .ok (.ifCond .eq 36, 3) := by decide +kernel
theorem d_GM_begin_91 : decode prog_10_method_30_code 91 = .ok (.aload_n 0, 1) := by decide +kernel
theorem d_GM_begin_92 : decode prog_10_method_30_code 92 = .ok (.dup, 1) := by decide +kernel
theorem d_GM_begin_93 : decode prog_10_method_30_code 93 = .ok (.getfield 22, 3) := by decide +kernel
theorem d_GM_begin_96 : decode prog_10_method_30_code 96 = .ok (.iconst 1, 1) := by decide +kernel
theorem d_GM_begin_97 : decode prog_10_method_30_code 97 = .ok (.iadd, 1) := by decide +kernel
theorem d_GM_begin_98 : decode prog_10_method_30_code 98 = .ok (.putfield 22, 3) := by decide +kernel
theorem d_GM_begin_101 : decode prog_10_method_30_code 101 = .ok (.aload_n 0, 1) := by decide +kernel
theorem d_GM_begin_102 : decode prog_10_method_30_code 102 = .ok (.iconst 5, 1) := by decide +kernel
theorem d_GM_begin_103 : decode prog_10_method_30_code 103 = .ok (.invokevirtual 208, 3) := by decide +kernel
theorem d_GM_begin_106 : decode prog_10_method_30_code 106 = .ok (.aload_n 0, 1) := by decide +kernel
theorem d_GM_begin_107 : decode prog_10_method_30_code 107 = .ok (.getfield 127, 3) := by decide +kernel
theorem d_GM_begin_110 : decode prog_10_method_30_code 110 = .ok (.aload_n 0, 1) := by decide +kernel
theorem d_GM_begin_111 : decode prog_10_method_30_code 111 = .ok (.getfield 49, 3) := by decide +kernel
theorem d_GM_begin_114 : decode prog_10_method_30_code 114 = .ok (.iconst 1, 1) := by decide +kernel
theorem d_GM_begin_115 : decode prog_10_method_30_code 115 = .ok (.isub, 1) := by decide +kernel
theorem d_GM_begin_116 : decode prog_10_method_30_code 116 = .ok (.lload_n 1, 1) := by decide +kernel
theorem d_GM_begin_117 : decode prog_10_method_30_code 117 = .ok (.lastore, 1) := by decide +kernel
theorem d_GM_begin_118 : decode prog_10_method_30_code 118 = .ok (.aload_n 0, 1) := by decide +kernel
theorem d_GM_begin_119 : decode prog_10_method_30_code 119 = .ok (.invokevirtual 213, 3) := by decide +kernel
theorem d_GM_begin_122 : decode prog_10_method_30_code 122 = .ok (.iconst 0, 1) := by decide +kernel
theorem d_GM_begin_123 : decode prog_10_method_30_code 123 = .ok (.ireturn, 1) := by decide +kernel
theorem d_GM_begin_124 : decode prog_10_method_30_code 124 = .ok (.aload_n 0, 1) := by decide +kernel
theorem d_GM_begin_125 : decode prog_10_method_30_code 125 = .ok (.getfield 22, 3) := by decide +kernel
theorem d_GM_begin_128 : decode prog_10_method_30_code 128 = .ok (.aload_n 0, 1) := by decide +kernel
theorem d_GM_begin_129 : decode prog_10_method_30_code 129 = .ok (.getfield 13, 3) := by decide +kernel
theorem d_GM_begin_132 : decode prog_10_method_30_code 132 = .ok (.if_icmp .ge 16, 3) := by decide +kernel
theorem d_GM_begin_135 : decode prog_10_method_30_code 135 = .ok (.aload_n 0, 1) := by decide +kernel
theorem d_GM_begin_136 : decode prog_10_method_30_code 136 = .ok (.getfield 78, 3) := by decide +kernel
theorem d_GM_begin_139 : decode prog_10_method_30_code 139 = .ok (.aload_n 0, 1) := by decide +kernel
theorem d_GM_begin_140 : decode prog_10_method_30_code 140 = .ok (.getfield 22, 3) := by decide +kernel
theorem d_GM_begin_143 : decode prog_10_method_30_code 143 = .ok (.iaload, 1) := by decide +kernel
theorem d_GM_begin_144 : decode prog_10_method_30_code 144 = .ok (.iconst 1, 1) := by decide +kernel
theorem d_GM_begin_145 : decode prog_10_method_30_code 145 = .ok (.if_icmp .eq 11, 3) := by decide +kernel
theorem d_GM_begin_148 : decode prog_10_method_30_code 148 = .ok (.aload_n 0, 1) := by decide +kernel
theorem d_GM_begin_149 : decode prog_10_method_30_code 149 = .ok (.iconst 3, 1) := by decide +kernel
theorem d_GM_begin_150 : decode prog_10_method_30_code 150 = .ok (.invokevirtual 201, 3) := by decide +kernel
theorem d_GM_begin_153 : decode prog_10_method_30_code 153 = .ok (.ifCond .eq 22, 3) := by decide +kernel
theorem d_GM_begin_156 : decode prog_10_method_30_code 156 = .ok (.aload_n 0, 1) := by decide +kernel
theorem d_GM_begin_157 : decode prog_10_method_30_code 157 = .ok (.iconst 4, 1) := by decide +kernel
theorem d_GM_begin_158 : decode prog_10_method_30_code 158 = .ok (.invokevirtual 208, 3) := by decide +kernel
theorem d_GM_begin_161 : decode prog_10_method_30_code 161 = .ok (.aload_n 0, 1) := by decide +kernel
theorem d_GM_begin_162 : decode prog_10_method_30_code 162 = .ok (.getfield 127, 3) := by decide +kernel
theorem d_GM_begin_165 : decode prog_10_method_30_code 165 = .ok (.aload_n 0, 1) := by decide +kernel
theorem d_GM_begin_166 : decode prog_10_method_30_code 166 = .ok (.getfield 49, 3) := by decide +kernel
theorem d_GM_begin_169 : decode prog_10_method_30_code 169 = .ok (.iconst 1, 1) := by decide +kernel
theorem d_GM_begin_170 : decode prog_10_method_30_code 170 = .ok (.isub, 1) := by decide +kernel
theorem d_GM_begin_171 : decode prog_10_method_30_code 171 = .ok (.lload_n 1, 1) := by decide +kernel
theorem d_GM_begin_172 : decode prog_10_method_30_code 172 = .ok (.lastore, 1) := by decide +kernel
theorem d_GM_begin_173 : decode prog_10_method_30_code 173 = .ok (.iconst 0, 1) := by decide +kernel
theorem d_GM_begin_174 : decode prog_10_method_30_code 174 = .ok (.ireturn, 1) := by decide +kernel
theorem d_GM_begin_175 : decode prog_10_method_30_code 175 = .ok (.aload_n 0, 1) := by decide +kernel
theorem d_GM_begin_176 : decode prog_10_method_30_code 176 = .ok (.sipush 300, 3) := by decide +kernel
theorem d_GM_begin_179 : decode prog_10_method_30_code 179 = .ok (.aload_n 0, 1) := by decide +kernel
theorem d_GM_begin_180 : decode prog_10_method_30_code 180 = .ok (.getfield 37, 3) := by decide +kernel
theorem d_GM_begin_183 : decode prog_10_method_30_code 183 = .ok (.iadd, 1) := by decide +kernel
theorem d_GM_begin_184 : decode prog_10_method_30_code 184 = .ok (.invokevirtual 193, 3) := by decide +kernel
theorem d_GM_begin_187 : decode prog_10_method_30_code 187 = .ok (.aload_n 0, 1) := by decide +kernel
theorem d_GM_begin_188 : decode prog_10_method_30_code 188 = .ok (.getfield 118, 3) := by decide +kernel
theorem d_GM_begin_191 : decode prog_10_method_30_code 191 = .ok (.sipush 300, 3) := by decide +kernel
theorem d_GM_begin_194 : decode prog_10_method_30_code 194 = .ok (.aload_n 0, 1) := by decide +kernel
theorem d_GM_begin_195 : decode prog_10_method_30_code 195 = .ok (.getfield 37, 3) := by decide +kernel
theorem d_GM_begin_198 : decode prog_10_method_30_code 198 = .ok (.iadd, 1) := by decide +kernel
theorem d_GM_begin_199 : decode prog_10_method_30_code 199 = .ok (.bipush 13, 2) := by decide +kernel
theorem d_GM_begin_201 : decode prog_10_method_30_code 201 = .ok (.imul, 1) := by decide +kernel
theorem d_GM_begin_202 : decode prog_10_method_30_code 202 = .ok (.bipush 12, 2) := by decide +kernel
theorem d_GM_begin_204 : decode prog_10_method_30_code 204 = .ok (.iadd, 1) := by decide +kernel
theorem d_GM_begin_205 : decode prog_10_method_30_code 205 = .ok (.lload_n 1, 1) := by decide +kernel
theorem d_GM_begin_206 : decode prog_10_method_30_code 206 = .ok (.lastore, 1) := by decide +kernel
theorem d_GM_begin_207 : decode prog_10_method_30_code 207 = .ok (.aload_n 0, 1) := by decide +kernel
theorem d_GM_begin_208 : decode prog_10_method_30_code 208 = .ok (.dup, 1) := by decide +kernel
theorem d_GM_begin_209 : decode prog_10_method_30_code 209 = .ok (.getfield 37, 3) := by decide +kernel
theorem d_GM_begin_212 : decode prog_10_method_30_code 212 = .ok (.iconst 1, 1) := by decide +kernel
theorem d_GM_begin_213 : decode prog_10_method_30_code 213 = .ok (.iadd, 1) := by decide +kernel
theorem d_GM_begin_214 : decode prog_10_method_30_code 214 = .ok (.putfield 37, 3) := by decide +kernel
theorem d_GM_begin_217 : decode prog_10_method_30_code 217 = .ok (.iconst 1, 1) := by decide +kernel
theorem d_GM_begin_218 : decode prog_10_method_30_code 218 = .ok (.ireturn, 1) := by decide +kernel
theorem d_GM_begin_219 : decode prog_10_method_30_code 219 = .ok (.aload_n 0, 1) := by decide +kernel
theorem d_GM_begin_220 : decode prog_10_method_30_code 220 = .ok (.getfield 22, 3) := by decide +kernel
theorem d_GM_begin_223 : decode prog_10_method_30_code 223 = .ok (.aload_n 0, 1) := by decide +kernel
theorem d_GM_begin_224 : decode prog_10_method_30_code 224 = .ok (.getfield 13, 3) := by decide +kernel
theorem d_GM_begin_227 : decode prog_10_method_30_code 227 = .ok (.if_icmp .ge 59, 3) := by decide +kernel
theorem d_GM_begin_230 : decode prog_10_method_30_code 230 = .ok (.aload_n 0, 1) := by decide +kernel
theorem d_GM_begin_231 : decode prog_10_method_30_code 231 = .ok (.getfield 78, 3) := by decide +kernel
theorem d_GM_begin_234 : decode prog_10_method_30_code 234 = .ok (.aload_n 0, 1) := by decide +kernel
theorem d_GM_begin_235 : decode prog_10_method_30_code 235 = .ok (.getfield 22, 3) := by decide +kernel
theorem d_GM_begin_238 : decode prog_10_method_30_code 238 = .ok (.iaload, 1) := by decide +kernel
theorem d_GM_begin_239 : decode prog_10_method_30_code 239 = .ok (.iconst 1, 1) := by decide +kernel
theorem d_GM_begin_240 : decode prog_10_method_30_code 240 = .ok (.if_icmp .ne 46, 3) := by decide +kernel
theorem d_GM_begin_243 : decode prog_10_method_30_code 243 = .ok (.aload_n 0, 1) := by decide +kernel
theorem d_GM_begin_244 : decode prog_10_method_30_code 244 = .ok (.sipush 300, 3) := by decide +kernel
theorem d_GM_begin_247 : decode prog_10_method_30_code 247 = .ok (.aload_n 0, 1) := by decide +kernel
theorem d_GM_begin_248 : decode prog_10_method_30_code 248 = .ok (.getfield 37, 3) := by decide +kernel
theorem d_GM_begin_251 : decode prog_10_method_30_code 251 = .ok (.iadd, 1) := by decide +kernel
theorem d_GM_begin_252 : decode prog_10_method_30_code 252 = .ok (.aload_n 0, 1) := by decide +kernel
theorem d_GM_begin_253 : decode prog_10_method_30_code 253 = .ok (.getfield 81, 3) := by decide +kernel
theorem d_GM_begin_256 : decode prog_10_method_30_code 256 = .ok (.aload_n 0, 1) := by decide +kernel
theorem d_GM_begin_257 : decode prog_10_method_30_code 257 = .ok (.getfield 22, 3) := by decide +kernel
theorem d_GM_begin_260 : decode prog_10_method_30_code 260 = .ok (.iaload, 1) := by decide +kernel
theorem d_GM_begin_261 : decode prog_10_method_30_code 261 = .ok (.invokevirtual 216, 3) := by decide +kernel
theorem d_GM_begin_264 : decode prog_10_method_30_code 264 = .ok (.aload_n 0, 1) := by decide +kernel
theorem d_GM_begin_265 : decode prog_10_method_30_code 265 = .ok (.dup, 1) := by decide +kernel
theorem d_GM_begin_266 : decode prog_10_method_30_code 266 = .ok (.getfield 37, 3) := by decide +kernel
theorem d_GM_begin_269 : decode prog_10_method_30_code 269 = .ok (.iconst 1, 1) := by decide +kernel
theorem d_GM_begin_270 : decode prog_10_method_30_code 270 = .ok (.iadd, 1) := by decide +kernel
theorem d_GM_begin_271 : decode prog_10_method_30_code 271 = .ok (.putfield 37, 3) := by decide +kernel
theorem d_GM_begin_274 : decode prog_10_method_30_code 274 = .ok (.aload_n 0, 1) := by decide +kernel
theorem d_GM_begin_275 : decode prog_10_method_30_code 275 = .ok (.dup, 1) := by decide +kernel
theorem d_GM_begin_276 : decode prog_10_method_30_code 276 = .ok (.getfield 22, 3) := by decide +kernel
theorem d_GM_begin_279 : decode prog_10_method_30_code 279 = .ok (.iconst 1, 1) := by decide +kernel
theorem d_GM_begin_280 : decode prog_10_method_30_code 280 = .ok (.iadd, 1) := by decide +kernel
theorem d_GM_begin_281 : decode prog_10_method_30_code 281 = .ok (.putfield 22, 3) := by decide +kernel
theorem d_GM_begin_284 : decode prog_10_method_30_code 284 = .ok (.iconst 1, 1) := by decide +kernel
theorem d_GM_begin_285 : decode prog_10_method_30_code 285 = .ok (.ireturn, 1) := by decide +kernel
theorem d_GM_begin_286 : decode prog_10_method_30_code 286 = .ok (.aload_n 0, 1) := by decide +kernel
theorem d_GM_begin_287 : decode prog_10_method_30_code 287 = .ok (.iconst 3, 1) := by decide +kernel
theorem d_GM_begin_288 : decode prog_10_method_30_code 288 = .ok (.invokevirtual 201, 3) := by decide +kernel
theorem d_GM_begin_291 : decode prog_10_method_30_code 291 = .ok (.ifCond .ne 9, 3) := by decide +kernel
theorem d_GM_begin_294 : decode prog_10_method_30_code 294 = .ok (.aload_n 0, 1) := by decide +kernel
theorem d_GM_begin_295 : decode prog_10_method_30_code 295 = .ok (.invokevirtual 205, 3) := by decide +kernel
theorem d_GM_begin_298 : decode prog_10_method_30_code 298 = .ok (.iconst 0, 1) := by decide +kernel
theorem d_GM_begin_299 : decode prog_10_method_30_code 299 = .ok (.ireturn, 1) := by decide +kernel
theorem d_GM_begin_300 : decode prog_10_method_30_code 300 = .ok (.aload_n 0, 1) := by decide +kernel
theorem d_GM_begin_301 : decode prog_10_method_30_code 301 = .ok (.invokevirtual 213, 3) := by decide +kernel
theorem d_GM_begin_304 : decode prog_10_method_30_code 304 = .ok (.aload_n 0, 1) := by decide +kernel
theorem d_GM_begin_305 : decode prog_10_method_30_code 305 = .ok (.iconst 0, 1) := by decide +kernel
theorem d_GM_begin_306 : decode prog_10_method_30_code 306 = .ok (.invokevirtual 208, 3) := by decide +kernel
theorem d_GM_begin_309 : decode prog_10_method_30_code 309 = .ok (.iconst 0, 1) := by decide +kernel
theorem d_GM_begin_310 : decode prog_10_method_30_code 310 = .ok (.ireturn, 1) := by decide +kernel
theorem d_GM_push_0 : decode prog_10_method_28_code 0 = .ok (.aload_n 0, 1) := by decide +kernel
theorem d_GM_push_1 : decode prog_10_method_28_code 1 = .ok (.getfield 121, 3) := by decide +kernel
theorem d_GM_push_4 : decode prog_10_method_28_code 4 = .ok (.aload_n 0, 1) := by decide +kernel
theorem d_GM_push_5 : decode prog_10_method_28_code 5 = .ok (.getfield 49, 3) := by decide +kernel
theorem d_GM_push_8 : decode prog_10_method_28_code 8 = .ok (.iload_n 1, 1) := by decide +kernel
theorem d_GM_push_9 : decode prog_10_method_28_code 9 = .ok (.iastore, 1) := by decide +kernel
theorem d_GM_push_10 : decode prog_10_method_28_code 10 = .ok (.aload_n 0, 1) := by decide +kernel
theorem d_GM_push_11 : decode prog_10_method_28_code 11 = .ok (.getfield 124, 3) := by decide +kernel
theorem d_GM_push_14 : decode prog_10_method_28_code 14 = .ok (.aload_n 0, 1) := by decide +kernel
theorem d_GM_push_15 : decode prog_10_method_28_code 15 = .ok (.getfield 49, 3) := by decide +kernel
theorem d_GM_push_18 : decode prog_10_method_28_code 18 = .ok (.aload_n 0, 1) := by decide +kernel
theorem d_GM_push_19 : decode prog_10_method_28_code 19 = .ok (.getfield 37, 3) := by decide +kernel
theorem d_GM_push_22 : decode prog_10_method_28_code 22 = .ok (.iastore, 1) := by decide +kernel
theorem d_GM_push_23 : decode prog_10_method_28_code 23 = .ok (.aload_n 0, 1) := by decide +kernel
theorem d_GM_push_24 : decode prog_10_method_28_code 24 = .ok (.dup, 1) := by decide +kernel
theorem d_GM_push_25 : decode prog_10_method_28_code 25 = .ok (.getfield 49, 3) := by decide +kernel
theorem d_GM_push_28 : decode prog_10_method_28_code 28 = .ok (.iconst 1, 1) := by decide +kernel
theorem d_GM_push_29 : decode prog_10_method_28_code 29 = .ok (.iadd, 1) := by decide +kernel
theorem d_GM_push_30 : decode prog_10_method_28_code 30 = .ok (.putfield 49, 3) := by decide +kernel
theorem d_GM_push_33 : decode prog_10_method_28_code 33 = .ok (.return_, 1) := by decide +kernel
theorem d_GM_openBracket_0 : decode prog_10_method_29_code 0 = .ok (.aload_n 0, 1) := by decide +kernel
theorem d_GM_openBracket_1 : decode prog_10_method_29_code 1 = .ok (.getfield 25, 3) := by decide +kernel
theorem d_GM_openBracket_4 : decode prog_10_method_29_code 4 = .ok (.ifCond .eq 4, 3) := by decide +kernel
theorem d_GM_openBracket_7 : decode prog_10_method_29_code 7 = .ok (.return_, 1) := by decide +kernel
theorem d_GM_openBracket_8 : decode prog_10_method_29_code 8 = .ok (.aload_n 0, 1) := by decide +kernel
theorem d_GM_openBracket_9 : decode prog_10_method_29_code 9 = .ok (.iconst 3, 1) := by decide +kernel
theorem d_GM_openBracket_10 : decode prog_10_method_29_code 10 = .ok (.invokevirtual 201, 3) := by decide +kernel
theorem d_GM_openBracket_13 : decode prog_10_method_29_code 13 = .ok (.ifCond .ne 10, 3) := by decide +kernel
theorem d_GM_openBracket_16 : decode prog_10_method_29_code 16 = .ok (.aload_n 0, 1) := by decide +kernel
theorem d_GM_openBracket_17 : decode prog_10_method_29_code 17 = .ok (.invokevirtual 205, 3) := by decide +kernel
theorem d_GM_openBracket_20 : decode prog_10_method_29_code 20 = .ok (.goto 45, 3) := by decide +kernel
theorem d_GM_openBracket_23 : decode prog_10_method_29_code 23 = .ok (.aload_n 0, 1) := by decide +kernel
theorem d_GM_openBracket_24 : decode prog_10_method_29_code 24 = .ok (.getfield 52, 3) := by decide +kernel
theorem d_GM_openBracket_27 : decode prog_10_method_29_code 27 = .ok (.bipush 8, 2) := by decide +kernel
theorem d_GM_openBracket_29 : decode prog_10_method_29_code 29 = .ok (.if_icmp .ne 16, 3) := by decide +kernel
theorem d_GM_openBracket_32 : decode prog_10_method_29_code 32 = .ok (.aload_n 0, 1) := by decide +kernel
theorem d_GM_openBracket_33 : decode prog_10_method_29_code 33 = .ok (.bipush (-5), 2) := by decide +kernel
theorem d_GM_openBracket_35 : decode prog_10_method_29_code 35 = .ok (.aload_n 0, 1) := by decide +kernel
theorem d_GM_openBracket_36 : decode prog_10_method_29_code 36 = .ok (.getfield 22, 3) := by decide +kernel
theorem d_GM_openBracket_39 : decode prog_10_method_29_code 39 = .ok (.invokevirtual 164, 3) := by decide +kernel
theorem d_GM_openBracket_42 : decode prog_10_method_29_code 42 = .ok (.goto 23, 3) := by decide +kernel
theorem d_GM_openBracket_45 : decode prog_10_method_29_code 45 = .ok (.aload_n 0, 1) := by decide +kernel
theorem d_GM_openBracket_46 : decode prog_10_method_29_code 46 = .ok (.dup, 1) := by decide +kernel
theorem d_GM_openBracket_47 : decode prog_10_method_29_code 47 = .ok (.getfield 52, 3) := by decide +kernel
theorem d_GM_openBracket_50 : decode prog_10_method_29_code 50 = .ok (.iconst 1, 1) := by decide +kernel
theorem d_GM_openBracket_51 : decode prog_10_method_29_code 51 = .ok (.iadd, 1) := by decide +kernel
theorem d_GM_openBracket_52 : decode prog_10_method_29_code 52 = .ok (.putfield 52, 3) := by decide +kernel
theorem d_GM_openBracket_55 : decode prog_10_method_29_code 55 = .ok (.aload_n 0, 1) := by decide +kernel
theorem d_GM_openBracket_56 : decode prog_10_method_29_code 56 = .ok (.dup, 1) := by decide +kernel
theorem d_GM_openBracket_57 : decode prog_10_method_29_code 57 = .ok (.getfield 22, 3) := by decide +kernel
theorem d_GM_openBracket_60 : decode prog_10_method_29_code 60 = .ok (.iconst 1, 1) := by decide +kernel
theorem d_GM_openBracket_61 : decode prog_10_method_29_code 61 = .ok (.iadd, 1) := by decide +kernel
theorem d_GM_openBracket_62 : decode prog_10_method_29_code 62 = .ok (.putfield 22, 3) := by decide +kernel
theorem d_GM_openBracket_65 : decode prog_10_method_29_code 65 = .ok (.return_, 1) := by decide +kernel
theorem d_GM_syntax_0 : decode prog_10_method_26_code 0 = .ok (.aload_n 0, 1) := by decide +kernel
theorem d_GM_syntax_1 : decode prog_10_method_26_code 1 = .ok (.getfield 25, 3) := by decide +kernel
theorem d_GM_syntax_4 : decode prog_10_method_26_code 4 = .ok (.ifCond .ne 13, 3) := by decide +kernel
theorem d_GM_syntax_7 : decode prog_10_method_26_code 7 = .ok (.aload_n 0, 1) := by decide +kernel
theorem d_GM_syntax_8 : decode prog_10_method_26_code 8 = .ok (.bipush (-8), 2) := by decide +kernel
theorem d_GM_syntax_10 : decode prog_10_method_26_code 10 = .ok (.aload_n 0, 1) := by decide +kernel
theorem d_GM_syntax_11 : decode prog_10_method_26_code 11 = .ok (.getfield 22, 3) := by decide +kernel
theorem d_GM_syntax_14 : decode prog_10_method_26_code 14 = .ok (.invokevirtual 164, 3) := by decide +kernel
theorem d_GM_syntax_17 : decode prog_10_method_26_code 17 = .ok (.return_, 1) := by decide +kernel
theorem d_GM_clear_0 : decode prog_10_method_15_code 0 = .ok (.iconst 0, 1) := by decide +kernel
theorem d_GM_clear_1 : decode prog_10_method_15_code 1 = .ok (.istore_n 2, 1) := by decide +kernel
theorem d_GM_clear_2 : decode prog_10_method_15_code 2 = .ok (.iload_n 2, 1) := by decide +kernel
theorem d_GM_clear_3 : decode prog_10_method_15_code 3 = .ok (.bipush 13, 2) := by decide +kernel
theorem d_GM_clear_5 : decode prog_10_method_15_code 5 = .ok (.if_icmp .ge 21, 3) := by decide +kernel
theorem d_GM_clear_8 : decode prog_10_method_15_code 8 = .ok (.aload_n 0, 1) := by decide +kernel
theorem d_GM_clear_9 : decode prog_10_method_15_code 9 = .ok (.getfield 118, 3) := by decide +kernel
theorem d_GM_clear_12 : decode prog_10_method_15_code 12 = .ok (.iload_n 1, 1) := by decide +kernel
theorem d_GM_clear_13 : decode prog_10_method_15_code 13 = .ok (.bipush 13, 2) := by decide +kernel
theorem d_GM_clear_15 : decode prog_10_method_15_code 15 = .ok (.imul, 1) := by decide +kernel
theorem d_GM_clear_16 : decode prog_10_method_15_code 16 = .ok (.iload_n 2, 1) := by decide +kernel
theorem d_GM_clear_17 : decode prog_10_method_15_code 17 = .ok (.iadd, 1) := by decide +kernel
theorem d_GM_clear_18 : decode prog_10_method_15_code 18 = .ok (.lconst 0, 1) := by decide +kernel
theorem d_GM_clear_19 : decode prog_10_method_15_code 19 = .ok (.lastore, 1) := by decide +kernel
theorem d_GM_clear_20 : decode prog_10_method_15_code 20 = .ok (.iinc 2 1, 3) := by decide +kernel
theorem d_GM_clear_23 : decode prog_10_method_15_code 23 = .ok (.goto (-21), 3) := by decide +kernel
theorem d_GM_clear_26 : decode prog_10_method_15_code 26 = .ok (.return_, 1) := by decide +kernel
theorem d_GM_loadVariable_0 : decode prog_10_method_20_code 0 = .ok (.aload_n 0, 1) := by decide +kernel
theorem d_GM_loadVariable_1 : decode prog_10_method_20_code 1 = .ok (.iload_n 1, 1) := by decide +kernel
theorem d_GM_loadVariable_2 : decode prog_10_method_20_code 2 = .ok (.invokevirtual 193, 3) := by decide +kernel
theorem d_GM_loadVariable_5 : decode prog_10_method_20_code 5 = .ok (.aload_n 0, 1) := by decide +kernel
theorem d_GM_loadVariable_6 : decode prog_10_method_20_code 6 = .ok (.getfield 102, 3) := by decide +kernel
theorem d_GM_loadVariable_9 : decode prog_10_method_20_code 9 = .ok (.iload_n 2, 1) := by decide +kernel
theorem d_GM_loadVariable_10 : decode prog_10_method_20_code 10 = .ok (.iaload, 1) := by decide +kernel
theorem d_GM_loadVariable_11 : decode prog_10_method_20_code 11 = .ok (.ifCond .ne 20, 3) := by decide +kernel
theorem d_GM_loadVariable_14 : decode prog_10_method_20_code 14 = .ok (.aload_n 0, 1) := by decide +kernel
theorem d_GM_loadVariable_15 : decode prog_10_method_20_code 15 = .ok (.getfield 118, 3) := by decide +kernel
theorem d_GM_loadVariable_18 : decode prog_10_method_20_code 18 = .ok (.iload_n 1, 1) := by decide +kernel
theorem d_GM_loadVariable_19 : decode prog_10_method_20_code 19 = .ok (.bipush 13, 2) := by decide +kernel
theorem d_GM_loadVariable_21 : decode prog_10_method_20_code 21 = .ok (.imul, 1) := by decide +kernel
theorem d_GM_loadVariable_22 : decode prog_10_method_20_code 22 = .ok (.iload_n 2, 1) := by decide +kernel
theorem d_GM_loadVariable_23 : decode prog_10_method_20_code 23 = .ok (.iadd, 1) := by decide +kernel
theorem d_GM_loadVariable_24 : decode prog_10_method_20_code 24 = .ok (.ldc2_w 197, 3) := by decide +kernel
theorem d_GM_loadVariable_27 : decode prog_10_method_20_code 27 = .ok (.lastore, 1) := by decide +kernel
theorem d_GM_loadVariable_28 : decode prog_10_method_20_code 28 = .ok (.goto 39, 3) := by decide +kernel
theorem d_GM_loadVariable_31 : decode prog_10_method_20_code 31 = .ok (.iconst 0, 1) := by decide +kernel
theorem d_GM_loadVariable_32 : decode prog_10_method_20_code 32 = .ok (.istore_n 3, 1) := by decide +kernel
theorem d_GM_loadVariable_33 : decode prog_10_method_20_code 33 = .ok (.iload_n 3, 1) := by decide +kernel
theorem d_GM_loadVariable_34 : decode prog_10_method_20_code 34 = .ok (.bipush 13, 2) := by decide +kernel
theorem d_GM_loadVariable_36 : decode prog_10_method_20_code 36 = .ok (.if_icmp .ge 31, 3) := by decide +kernel
theorem d_GM_loadVariable_39 : decode prog_10_method_20_code 39 = .ok (.aload_n 0, 1) := by decide +kernel
theorem d_GM_loadVariable_40 : decode prog_10_method_20_code 40 = .ok (.getfield 118, 3) := by decide +kernel
theorem d_GM_loadVariable_43 : decode prog_10_method_20_code 43 = .ok (.iload_n 1, 1) := by decide +kernel
theorem d_GM_loadVariable_44 : decode prog_10_method_20_code 44 = .ok (.bipush 13, 2) := by decide +kernel
theorem d_GM_loadVariable_46 : decode prog_10_method_20_code 46 = .ok (.imul, 1) := by decide +kernel
theorem d_GM_loadVariable_47 : decode prog_10_method_20_code 47 = .ok (.iload_n 3, 1) := by decide +kernel
theorem d_GM_loadVariable_48 : decode prog_10_method_20_code 48 = .ok (.iadd, 1) := by decide +kernel
theorem d_GM_loadVariable_49 : decode prog_10_method_20_code 49 = .ok (.aload_n 0, 1) := by decide +kernel
theorem d_GM_loadVariable_50 : decode prog_10_method_20_code 50 = .ok (.getfield 105, 3) := by decide +kernel
theorem d_GM_loadVariable_53 : decode prog_10_method_20_code 53 = .ok (.iload_n 2, 1) := by decide +kernel
theorem d_GM_loadVariable_54 : decode prog_10_method_20_code 54 = .ok (.bipush 13, 2) := by decide +kernel
theorem d_GM_loadVariable_56 : decode prog_10_method_20_code 56 = .ok (.imul, 1) := by decide +kernel
theorem d_GM_loadVariable_57 : decode prog_10_method_20_code 57 = .ok (.iload_n 3, 1) := by decide +kernel
theorem d_GM_loadVariable_58 : decode prog_10_method_20_code 58 = .ok (.iadd, 1) := by decide +kernel
theorem d_GM_loadVariable_59 : decode prog_10_method_20_code 59 = .ok (.laload, 1) := by decide +kernel
theorem d_GM_loadVariable_60 : decode prog_10_method_20_code 60 = .ok (.lastore, 1) := by decide +kernel
theorem d_GM_loadVariable_61 : decode prog_10_method_20_code 61 = .ok (.iinc 3 1, 3) := by decide +kernel
theorem d_GM_loadVariable_64 : decode prog_10_method_20_code 64 = .ok (.goto (-31), 3) := by decide +kernel
theorem d_GM_loadVariable_67 : decode prog_10_method_20_code 67 = .ok (.return_, 1) := by decide +kernel
theorem d_GM_finishTerm_0 : decode prog_10_method_31_code 0 = .ok (.aload_n 0, 1) := by decide +kernel
theorem d_GM_finishTerm_1 : decode prog_10_method_31_code 1 = .ok (.getfield 49, 3) := by decide +kernel
theorem d_GM_finishTerm_4 : decode prog_10_method_31_code 4 = .ok (.iload_n 1, 1) := by decide +kernel
theorem d_GM_finishTerm_5 : decode prog_10_method_31_code 5 = .ok (.if_icmp .le 86, 3) := by decide +kernel
theorem d_GM_finishTerm_8 : decode prog_10_method_31_code 8 = .ok (.aload_n 0, 1) := by decide +kernel
theorem d_GM_finishTerm_9 : decode prog_10_method_31_code 9 = .ok (.getfield 121, 3) := by decide +kernel
theorem d_GM_finishTerm_12 : decode prog_10_method_31_code 12 = .ok (.aload_n 0, 1) := by decide +kernel
theorem d_GM_finishTerm_13 : decode prog_10_method_31_code 13 = .ok (.getfield 49, 3) := by decide +kernel
theorem d_GM_finishTerm_16 : decode prog_10_method_31_code 16 = .ok (.iconst 1, 1) := by decide +kernel
theorem d_GM_finishTerm_17 : decode prog_10_method_31_code 17 = .ok (.isub, 1) := by decide +kernel
theorem d_GM_finishTerm_18 : decode prog_10_method_31_code 18 = .ok (.iaload, 1) := by decide +kernel
theorem d_GM_finishTerm_19 : decode prog_10_method_31_code 19 = .ok (.iconst 3, 1) := by decide +kernel
theorem d_GM_finishTerm_20 : decode prog_10_method_31_code 20 = .ok (.if_icmp .eq 18, 3) := by decide +kernel
theorem d_GM_finishTerm_23 : decode prog_10_method_31_code 23 = .ok (.aload_n 0, 1) := by decide +kernel
theorem d_GM_finishTerm_24 : decode prog_10_method_31_code 24 = .ok (.getfield 121, 3) := by decide +kernel
theorem d_GM_finishTerm_27 : decode prog_10_method_31_code 27 = .ok (.aload_n 0, 1) := by decide +kernel
theorem d_GM_finishTerm_28 : decode prog_10_method_31_code 28 = .ok (.getfield 49, 3) := by decide +kernel
theorem d_GM_finishTerm_31 : decode prog_10_method_31_code 31 = .ok (.iconst 1, 1) := by decide +kernel
theorem d_GM_finishTerm_32 : decode prog_10_method_31_code 32 = .ok (.isub, 1) := by decide +kernel
theorem d_GM_finishTerm_33 : decode prog_10_method_31_code 33 = .ok (.iaload, 1) := by decide +kernel
theorem d_GM_finishTerm_34 : decode prog_10_method_31_code 34 = .ok (.iconst 4, 1) := by decide +kernel
theorem d_GM_finishTerm_35 : decode prog_10_method_31_code 35 = .ok (.if_icmp .ne 56, 3) := by decide +kernel
theorem d_GM_finishTerm_38 : decode prog_10_method_31_code 38 = .ok (.aload_n 0, 1) := by decide +kernel
theorem d_GM_finishTerm_39 : decode prog_10_method_31_code 39 = .ok (.dup, 1) := by decide +kernel
theorem d_GM_finishTerm_40 : decode prog_10_method_31_code 40 = .ok (.getfield 49, 3) := by decide +kernel
theorem d_GM_finishTerm_43 : decode prog_10_method_31_code 43 = .ok (.iconst 1, 1) := by decide +kernel
theorem d_GM_finishTerm_44 : decode prog_10_method_31_code 44 = .ok (.isub, 1) := by decide +kernel
theorem d_GM_finishTerm_45 : decode prog_10_method_31_code 45 = .ok (.putfield 49, 3) := by decide +kernel
theorem d_GM_finishTerm_48 : decode prog_10_method_31_code 48 = .ok (.aload_n 0, 1) := by decide +kernel
theorem d_GM_finishTerm_49 : decode prog_10_method_31_code 49 = .ok (.sipush 299, 3) := by decide +kernel
theorem d_GM_finishTerm_52 : decode prog_10_method_31_code 52 = .ok (.aload_n 0, 1) := by decide +kernel
theorem d_GM_finishTerm_53 : decode prog_10_method_31_code 53 = .ok (.getfield 37, 3) := by decide +kernel
theorem d_GM_finishTerm_56 : decode prog_10_method_31_code 56 = .ok (.iadd, 1) := by decide +kernel
theorem d_GM_finishTerm_57 : decode prog_10_method_31_code 57 = .ok (.aload_n 0, 1) := by decide +kernel
theorem d_GM_finishTerm_58 : decode prog_10_method_31_code 58 = .ok (.getfield 121, 3) := by decide +kernel
theorem d_GM_finishTerm_61 : decode prog_10_method_31_code 61 = .ok (.aload_n 0, 1) := by decide +kernel
theorem d_GM_finishTerm_62 : decode prog_10_method_31_code 62 = .ok (.getfield 49, 3) := by decide +kernel
theorem d_GM_finishTerm_65 : decode prog_10_method_31_code 65 = .ok (.iaload, 1) := by decide +kernel
theorem d_GM_finishTerm_66 : decode prog_10_method_31_code 66 = .ok (.iconst 3, 1) := by decide +kernel
theorem d_GM_finishTerm_67 : decode prog_10_method_31_code 67 = .ok (.if_icmp .ne 9, 3) := by decide +kernel
theorem d_GM_finishTerm_70 : decode prog_10_method_31_code 70 = .ok (.ldc2_w 219, 3) := by decide +kernel
theorem d_GM_finishTerm_73 : decode prog_10_method_31_code 73 = .ok (.goto 12, 3) := by decide +kernel
theorem d_GM_finishTerm_76 : decode prog_10_method_31_code 76 = .ok (.aload_n 0, 1) := by decide +kernel
theorem d_GM_finishTerm_77 : decode prog_10_method_31_code 77 = .ok (.getfield 127, 3) := by decide +kernel
theorem d_GM_finishTerm_80 : decode prog_10_method_31_code 80 = .ok (.aload_n 0, 1) := by decide +kernel
theorem d_GM_finishTerm_81 : decode prog_10_method_31_code 81 = .ok (.getfield 49, 3) := by decide +kernel
theorem d_GM_finishTerm_84 : decode prog_10_method_31_code 84 = .ok (.laload, 1) := by decide +kernel
theorem d_GM_finishTerm_85 : decode prog_10_method_31_code 85 = .ok (.invokevirtual 221, 3) := by decide +kernel
theorem d_GM_finishTerm_88 : decode prog_10_method_31_code 88 = .ok (.goto (-88), 3) := by decide +kernel
theorem d_GM_finishTerm_91 : decode prog_10_method_31_code 91 = .ok (.aload_n 0, 1) := by decide +kernel
theorem d_GM_finishTerm_92 : decode prog_10_method_31_code 92 = .ok (.getfield 49, 3) := by decide +kernel
theorem d_GM_finishTerm_95 : decode prog_10_method_31_code 95 = .ok (.iload_n 1, 1) := by decide +kernel
theorem d_GM_finishTerm_96 : decode prog_10_method_31_code 96 = .ok (.if_icmp .le 91, 3) := by decide +kernel
theorem d_GM_finishTerm_99 : decode prog_10_method_31_code 99 = .ok (.aload_n 0, 1) := by decide +kernel
theorem d_GM_finishTerm_100 : decode prog_10_method_31_code 100 = .ok (.getfield 121, 3) := by decide +kernel
theorem d_GM_finishTerm_103 : decode prog_10_method_31_code 103 = .ok (.aload_n 0, 1) := by decide +kernel
theorem d_GM_finishTerm_104 : decode prog_10_method_31_code 104 = .ok (.getfield 49, 3) := by decide +kernel
theorem d_GM_finishTerm_107 : decode prog_10_method_31_code 107 = .ok (.iconst 1, 1) := by decide +kernel
theorem d_GM_finishTerm_108 : decode prog_10_method_31_code 108 = .ok (.isub, 1) := by decide +kernel
theorem d_GM_finishTerm_109 : decode prog_10_method_31_code 109 = .ok (.iaload, 1) := by decide +kernel
theorem d_GM_finishTerm_110 : decode prog_10_method_31_code 110 = .ok (.iconst 1, 1) := by decide +kernel
theorem d_GM_finishTerm_111 : decode prog_10_method_31_code 111 = .ok (.if_icmp .eq 18, 3) := by decide +kernel
theorem d_GM_finishTerm_114 : decode prog_10_method_31_code 114 = .ok (.aload_n 0, 1) := by decide +kernel
theorem d_GM_finishTerm_115 : decode prog_10_method_31_code 115 = .ok (.getfield 121, 3) := by decide +kernel
theorem d_GM_finishTerm_118 : decode prog_10_method_31_code 118 = .ok (.aload_n 0, 1) := by decide +kernel
theorem d_GM_finishTerm_119 : decode prog_10_method_31_code 119 = .ok (.getfield 49, 3) := by decide +kernel
theorem d_GM_finishTerm_122 : decode prog_10_method_31_code 122 = .ok (.iconst 1, 1) := by decide +kernel
theorem d_GM_finishTerm_123 : decode prog_10_method_31_code 123 = .ok (.isub, 1) := by decide +kernel
theorem d_GM_finishTerm_124 : decode prog_10_method_31_code 124 = .ok (.iaload, 1) := by decide +kernel
theorem d_GM_finishTerm_125 : decode prog_10_method_31_code 125 = .ok (.iconst 2, 1) := by decide +kernel
theorem d_GM_finishTerm_126 : decode prog_10_method_31_code 126 = .ok (.if_icmp .ne 61, 3) := by decide +kernel
theorem d_GM_finishTerm_129 : decode prog_10_method_31_code 129 = .ok (.aload_n 0, 1) := by decide +kernel
theorem d_GM_finishTerm_130 : decode prog_10_method_31_code 130 = .ok (.dup, 1) := by decide +kernel
theorem d_GM_finishTerm_131 : decode prog_10_method_31_code 131 = .ok (.getfield 49, 3) := by decide +kernel
theorem d_GM_finishTerm_134 : decode prog_10_method_31_code 134 = .ok (.iconst 1, 1) := by decide +kernel
theorem d_GM_finishTerm_135 : decode prog_10_method_31_code 135 = .ok (.isub, 1) := by decide +kernel
theorem d_GM_finishTerm_136 : decode prog_10_method_31_code 136 = .ok (.putfield 49, 3) := by decide +kernel
theorem d_GM_finishTerm_139 : decode prog_10_method_31_code 139 = .ok (.aload_n 0, 1) := by decide +kernel
theorem d_GM_finishTerm_140 : decode prog_10_method_31_code 140 = .ok (.dup, 1) := by decide +kernel
theorem d_GM_finishTerm_141 : decode prog_10_method_31_code 141 = .ok (.getfield 37, 3) := by decide +kernel
theorem d_GM_finishTerm_144 : decode prog_10_method_31_code 144 = .ok (.iconst 1, 1) := by decide +kernel
theorem d_GM_finishTerm_145 : decode prog_10_method_31_code 145 = .ok (.isub, 1) := by decide +kernel
theorem d_GM_finishTerm_146 : decode prog_10_method_31_code 146 = .ok (.putfield 37, 3) := by decide +kernel
theorem d_GM_finishTerm_149 : decode prog_10_method_31_code 149 = .ok (.aload_n 0, 1) := by decide +kernel
theorem d_GM_finishTerm_150 : decode prog_10_method_31_code 150 = .ok (.sipush 299, 3) := by decide +kernel
theorem d_GM_finishTerm_153 : decode prog_10_method_31_code 153 = .ok (.aload_n 0, 1) := by decide +kernel
theorem d_GM_finishTerm_154 : decode prog_10_method_31_code 154 = .ok (.getfield 37, 3) := by decide +kernel
theorem d_GM_finishTerm_157 : decode prog_10_method_31_code 157 = .ok (.iadd, 1) := by decide +kernel
theorem d_GM_finishTerm_158 : decode prog_10_method_31_code 158 = .ok (.sipush 300, 3) := by decide +kernel
theorem d_GM_finishTerm_161 : decode prog_10_method_31_code 161 = .ok (.aload_n 0, 1) := by decide +kernel
theorem d_GM_finishTerm_162 : decode prog_10_method_31_code 162 = .ok (.getfield 37, 3) := by decide +kernel
theorem d_GM_finishTerm_165 : decode prog_10_method_31_code 165 = .ok (.iadd, 1) := by decide +kernel
theorem d_GM_finishTerm_166 : decode prog_10_method_31_code 166 = .ok (.aload_n 0, 1) := by decide +kernel
theorem d_GM_finishTerm_167 : decode prog_10_method_31_code 167 = .ok (.getfield 121, 3) := by decide +kernel
theorem d_GM_finishTerm_170 : decode prog_10_method_31_code 170 = .ok (.aload_n 0, 1) := by decide +kernel
theorem d_GM_finishTerm_171 : decode prog_10_method_31_code 171 = .ok (.getfield 49, 3) := by decide +kernel
theorem d_GM_finishTerm_174 : decode prog_10_method_31_code 174 = .ok (.iaload, 1) := by decide +kernel
theorem d_GM_finishTerm_175 : decode prog_10_method_31_code 175 = .ok (.iconst 1, 1) := by decide +kernel
theorem d_GM_finishTerm_176 : decode prog_10_method_31_code 176 = .ok (.if_icmp .ne 7, 3) := by decide +kernel
theorem d_GM_finishTerm_179 : decode prog_10_method_31_code 179 = .ok (.iconst 1, 1) := by decide +kernel
theorem d_GM_finishTerm_180 : decode prog_10_method_31_code 180 = .ok (.goto 4, 3) := by decide +kernel
theorem d_GM_finishTerm_183 : decode prog_10_method_31_code 183 = .ok (.iconst (-1), 1) := by decide +kernel
theorem d_GM_finishTerm_184 : decode prog_10_method_31_code 184 = .ok (.invokevirtual 225, 3) := by decide +kernel
theorem d_GM_finishTerm_187 : decode prog_10_method_31_code 187 = .ok (.return_, 1) := by decide +kernel
theorem d_GM_scale_0 : decode prog_10_method_19_code 0 = .ok (.iconst 0, 1) := by decide +kernel
theorem d_GM_scale_1 : decode prog_10_method_19_code 1 = .ok (.istore 4, 2) := by decide +kernel
theorem d_GM_scale_3 : decode prog_10_method_19_code 3 = .ok (.iload 4, 2) := by decide +kernel
theorem d_GM_scale_5 : decode prog_10_method_19_code 5 = .ok (.bipush 13, 2) := by decide +kernel
theorem d_GM_scale_7 : decode prog_10_method_19_code 7 = .ok (.if_icmp .ge 38, 3) := by decide +kernel
theorem d_GM_scale_10 : decode prog_10_method_19_code 10 = .ok (.aload_n 0, 1) := by decide +kernel
theorem d_GM_scale_11 : decode prog_10_method_19_code 11 = .ok (.getfield 118, 3) := by decide +kernel
theorem d_GM_scale_14 : decode prog_10_method_19_code 14 = .ok (.iload_n 1, 1) := by decide +kernel
theorem d_GM_scale_15 : decode prog_10_method_19_code 15 = .ok (.bipush 13, 2) := by decide +kernel
theorem d_GM_scale_17 : decode prog_10_method_19_code 17 = .ok (.imul, 1) := by decide +kernel
theorem d_GM_scale_18 : decode prog_10_method_19_code 18 = .ok (.iload 4, 2) := by decide +kernel
theorem d_GM_scale_20 : decode prog_10_method_19_code 20 = .ok (.iadd, 1) := by decide +kernel
theorem d_GM_scale_21 : decode prog_10_method_19_code 21 = .ok (.aload_n 0, 1) := by decide +kernel
theorem d_GM_scale_22 : decode prog_10_method_19_code 22 = .ok (.aload_n 0, 1) := by decide +kernel
theorem d_GM_scale_23 : decode prog_10_method_19_code 23 = .ok (.getfield 118, 3) := by decide +kernel
theorem d_GM_scale_26 : decode prog_10_method_19_code 26 = .ok (.iload_n 1, 1) := by decide +kernel
theorem d_GM_scale_27 : decode prog_10_method_19_code 27 = .ok (.bipush 13, 2) := by decide +kernel
theorem d_GM_scale_29 : decode prog_10_method_19_code 29 = .ok (.imul, 1) := by decide +kernel
theorem d_GM_scale_30 : decode prog_10_method_19_code 30 = .ok (.iload 4, 2) := by decide +kernel
theorem d_GM_scale_32 : decode prog_10_method_19_code 32 = .ok (.iadd, 1) := by decide +kernel
theorem d_GM_scale_33 : decode prog_10_method_19_code 33 = .ok (.laload, 1) := by decide +kernel
theorem d_GM_scale_34 : decode prog_10_method_19_code 34 = .ok (.lload_n 2, 1) := by decide +kernel
theorem d_GM_scale_35 : decode prog_10_method_19_code 35 = .ok (.invokevirtual 189, 3) := by decide +kernel
theorem d_GM_scale_38 : decode prog_10_method_19_code 38 = .ok (.lastore, 1) := by decide +kernel
theorem d_GM_scale_39 : decode prog_10_method_19_code 39 = .ok (.iinc 4 1, 3) := by decide +kernel
theorem d_GM_scale_42 : decode prog_10_method_19_code 42 = .ok (.goto (-39), 3) := by decide +kernel
theorem d_GM_scale_45 : decode prog_10_method_19_code 45 = .ok (.return_, 1) := by decide +kernel
theorem d_GM_times_0 : decode prog_10_method_14_code 0 = .ok (.lload_n 1, 1) := by decide +kernel
theorem d_GM_times_1 : decode prog_10_method_14_code 1 = .ok (.lconst 0, 1) := by decide +kernel
theorem d_GM_times_2 : decode prog_10_method_14_code 2 = .ok (.lcmp, 1) := by decide +kernel
theorem d_GM_times_3 : decode prog_10_method_14_code 3 = .ok (.ifCond .eq 9, 3) := by decide +kernel
theorem d_GM_times_6 : decode prog_10_method_14_code 6 = .ok (.lload_n 3, 1) := by decide +kernel
theorem d_GM_times_7 : decode prog_10_method_14_code 7 = .ok (.lconst 0, 1) := by decide +kernel
theorem d_GM_times_8 : decode prog_10_method_14_code 8 = .ok (.lcmp, 1) := by decide +kernel
theorem d_GM_times_9 : decode prog_10_method_14_code 9 = .ok (.ifCond .ne 5, 3) := by decide +kernel
theorem d_GM_times_12 : decode prog_10_method_14_code 12 = .ok (.lconst 0, 1) := by decide +kernel
theorem d_GM_times_13 : decode prog_10_method_14_code 13 = .ok (.lreturn, 1) := by decide +kernel
theorem d_GM_times_14 : decode prog_10_method_14_code 14 = .ok (.lload_n 1, 1) := by decide +kernel
theorem d_GM_times_15 : decode prog_10_method_14_code 15 = .ok (.lstore 5, 2) := by decide +kernel
theorem d_GM_times_17 : decode prog_10_method_14_code 17 = .ok (.lload_n 3, 1) := by decide +kernel
theorem d_GM_times_18 : decode prog_10_method_14_code 18 = .ok (.lstore 7, 2) := by decide +kernel
theorem d_GM_times_20 : decode prog_10_method_14_code 20 = .ok (.iconst 0, 1) := by decide +kernel
theorem d_GM_times_21 : decode prog_10_method_14_code 21 = .ok (.istore 9, 2) := by decide +kernel
theorem d_GM_times_23 : decode prog_10_method_14_code 23 = .ok (.iload 9, 2) := by decide +kernel
theorem d_GM_times_25 : decode prog_10_method_14_code 25 = .ok (.bipush 16, 2) := by decide +kernel
theorem d_GM_times_27 : decode prog_10_method_14_code 27 = .ok (.if_icmp .ge 28, 3) := by decide +kernel
theorem d_GM_times_30 : decode prog_10_method_14_code 30 = .ok (.lload 5, 2) := by decide +kernel
theorem d_GM_times_32 : decode prog_10_method_14_code 32 = .ok (.ldc2_w 183, 3) := by decide +kernel
theorem d_GM_times_35 : decode prog_10_method_14_code 35 = .ok (.lrem, 1) := by decide +kernel
theorem d_GM_times_36 : decode prog_10_method_14_code 36 = .ok (.lconst 0, 1) := by decide +kernel
theorem d_GM_times_37 : decode prog_10_method_14_code 37 = .ok (.lcmp, 1) := by decide +kernel
theorem d_GM_times_38 : decode prog_10_method_14_code 38 = .ok (.ifCond .ne 17, 3) := by decide +kernel
theorem d_GM_times_41 : decode prog_10_method_14_code 41 = .ok (.lload 5, 2) := by decide +kernel
theorem d_GM_times_43 : decode prog_10_method_14_code 43 = .ok (.ldc2_w 183, 3) := by decide +kernel
theorem d_GM_times_46 : decode prog_10_method_14_code 46 = .ok (.ldiv, 1) := by decide +kernel
theorem d_GM_times_47 : decode prog_10_method_14_code 47 = .ok (.lstore 5, 2) := by decide +kernel
theorem d_GM_times_49 : decode prog_10_method_14_code 49 = .ok (.iinc 9 1, 3) := by decide +kernel
theorem d_GM_times_52 : decode prog_10_method_14_code 52 = .ok (.goto (-29), 3) := by decide +kernel
theorem d_GM_times_55 : decode prog_10_method_14_code 55 = .ok (.iload 9, 2) := by decide +kernel
theorem d_GM_times_57 : decode prog_10_method_14_code 57 = .ok (.bipush 16, 2) := by decide +kernel
theorem d_GM_times_59 : decode prog_10_method_14_code 59 = .ok (.if_icmp .ge 28, 3) := by decide +kernel
theorem d_GM_times_62 : decode prog_10_method_14_code 62 = .ok (.lload 7, 2) := by decide +kernel
theorem d_GM_times_64 : decode prog_10_method_14_code 64 = .ok (.ldc2_w 183, 3) := by decide +kernel
theorem d_GM_times_67 : decode prog_10_method_14_code 67 = .ok (.lrem, 1) := by decide +kernel
theorem d_GM_times_68 : decode prog_10_method_14_code 68 = .ok (.lconst 0, 1) := by decide +kernel
theorem d_GM_times_69 : decode prog_10_method_14_code 69 = .ok (.lcmp, 1) := by decide +kernel
theorem d_GM_times_70 : decode prog_10_method_14_code 70 = .ok (.ifCond .ne 17, 3) := by decide +kernel
theorem d_GM_times_73 : decode prog_10_method_14_code 73 = .ok (.lload 7, 2) := by decide +kernel
theorem d_GM_times_75 : decode prog_10_method_14_code 75 = .ok (.ldc2_w 183, 3) := by decide +kernel
theorem d_GM_times_78 : decode prog_10_method_14_code 78 = .ok (.ldiv, 1) := by decide +kernel
theorem d_GM_times_79 : decode prog_10_method_14_code 79 = .ok (.lstore 7, 2) := by decide +kernel
theorem d_GM_times_81 : decode prog_10_method_14_code 81 = .ok (.iinc 9 1, 3) := by decide +kernel
theorem d_GM_times_84 : decode prog_10_method_14_code 84 = .ok (.goto (-29), 3) := by decide +kernel
theorem d_GM_times_87 : decode prog_10_method_14_code 87 = .ok (.lload 5, 2) := by decide +kernel
theorem d_GM_times_89 : decode prog_10_method_14_code 89 = .ok (.lconst 0, 1) := by decide +kernel
theorem d_GM_times_90 : decode prog_10_method_14_code 90 = .ok (.lcmp, 1) := by decide +kernel
theorem d_GM_times_91 : decode prog_10_method_14_code 91 = .ok (.ifCond .ge 9, 3) := by decide +kernel
theorem d_GM_times_94 : decode prog_10_method_14_code 94 = .ok (.lload 5, 2) := by decide +kernel
theorem d_GM_times_96 : decode prog_10_method_14_code 96 = .ok (.lneg, 1) := by decide +kernel
theorem d_GM_times_97 : decode prog_10_method_14_code 97 = .ok (.goto 5, 3) := by decide +kernel
theorem d_GM_times_100 : decode prog_10_method_14_code 100 = .ok (.lload 5, 2) := by decide +kernel
theorem d_GM_times_102 : decode prog_10_method_14_code 102 = .ok (.lstore 10, 2) := by decide +kernel
theorem d_GM_times_104 : decode prog_10_method_14_code 104 = .ok (.lload 7, 2) := by decide +kernel
theorem d_GM_times_106 : decode prog_10_method_14_code 106 = .ok (.lconst 0, 1) := by decide +kernel
theorem d_GM_times_107 : decode prog_10_method_14_code 107 = .ok (.lcmp, 1) := by decide +kernel
theorem d_GM_times_108 : decode prog_10_method_14_code 108 = .ok (.ifCond .ge 9, 3) := by decide +kernel
theorem d_GM_times_111 : decode prog_10_method_14_code 111 = .ok (.lload 7, 2) := by decide +kernel
theorem d_GM_times_113 : decode prog_10_method_14_code 113 = .ok (.lneg, 1) := by decide +kernel
theorem d_GM_times_114 : decode prog_10_method_14_code 114 = .ok (.goto 5, 3) := by decide +kernel
theorem d_GM_times_117 : decode prog_10_method_14_code 117 = .ok (.lload 7, 2) := by decide +kernel
theorem d_GM_times_119 : decode prog_10_method_14_code 119 = .ok (.lstore 12, 2) := by decide +kernel
theorem d_GM_times_121 : decode prog_10_method_14_code 121 = .ok (.iload 9, 2) := by decide +kernel
theorem d_GM_times_123 : decode prog_10_method_14_code 123 = .ok (.bipush 16, 2) := by decide +kernel
theorem d_GM_times_125 : decode prog_10_method_14_code 125 = .ok (.if_icmp .lt 15, 3) := by decide +kernel
theorem d_GM_times_128 : decode prog_10_method_14_code 128 = .ok (.lload 10, 2) := by decide +kernel
theorem d_GM_times_130 : decode prog_10_method_14_code 130 = .ok (.ldc2_w 179, 3) := by decide +kernel
theorem d_GM_times_133 : decode prog_10_method_14_code 133 = .ok (.lload 12, 2) := by decide +kernel
theorem d_GM_times_135 : decode prog_10_method_14_code 135 = .ok (.ldiv, 1) := by decide +kernel
theorem d_GM_times_136 : decode prog_10_method_14_code 136 = .ok (.lcmp, 1) := by decide +kernel
theorem d_GM_times_137 : decode prog_10_method_14_code 137 = .ok (.ifCond .le 10, 3) := by decide +kernel
theorem d_GM_times_140 : decode prog_10_method_14_code 140 = .ok (.aload_n 0, 1) := by decide +kernel
theorem d_GM_times_141 : decode prog_10_method_14_code 141 = .ok (.iconst 1, 1) := by decide +kernel
theorem d_GM_times_142 : decode prog_10_method_14_code 142 = .ok (.putfield 55, 3) := by decide +kernel
theorem d_GM_times_145 : decode prog_10_method_14_code 145 = .ok (.lconst 0, 1) := by decide +kernel
theorem d_GM_times_146 : decode prog_10_method_14_code 146 = .ok (.lreturn, 1) := by decide +kernel
theorem d_GM_times_147 : decode prog_10_method_14_code 147 = .ok (.aload_n 0, 1) := by decide +kernel
theorem d_GM_times_148 : decode prog_10_method_14_code 148 = .ok (.lload 5, 2) := by decide +kernel
theorem d_GM_times_150 : decode prog_10_method_14_code 150 = .ok (.lload 7, 2) := by decide +kernel
theorem d_GM_times_152 : decode prog_10_method_14_code 152 = .ok (.lmul, 1) := by decide +kernel
theorem d_GM_times_153 : decode prog_10_method_14_code 153 = .ok (.invokevirtual 185, 3) := by decide +kernel
theorem d_GM_times_156 : decode prog_10_method_14_code 156 = .ok (.lreturn, 1) := by decide +kernel
theorem GM_k211 : Jvm.Cond.constantLong "GlyphCompilerModel" 211 (jL 4096) ∈ jTs := by rw [show jL 4096 = 4096 by decide]; exact (jin_t (jin_4 93 rfl) rfl)
theorem GM_f127 : jFl "GlyphCompilerModel" 127 8 38 := ⟨R_GM, T_GM, 46, rfl, Nat.le_of_ble_eq_true rfl, Or.inl (jin_t (jin_3 160 rfl) rfl)⟩
theorem GM_c213 : jLk "GlyphCompilerModel" 213 Y_GM_openBracket := Or.inl (jin_t (jin_4 94 rfl) rfl)
theorem GM_c193 : jLk "GlyphCompilerModel" 193 Y_GM_clear := Or.inl (jin_t (jin_4 102 rfl) rfl)
theorem GM_c216 : jLk "GlyphCompilerModel" 216 Y_GM_loadVariable := Or.inl (jin_t (jin_4 106 rfl) rfl)
theorem GM_c205 : jLk "GlyphCompilerModel" 205 Y_GM_syntax := Or.inl (jin_t (jin_4 98 rfl) rfl)
theorem GM_f124 : jFl "GlyphCompilerModel" 124 8 37 := ⟨R_GM, T_GM, 46, rfl, Nat.le_of_ble_eq_true rfl, Or.inl (jin_t (jin_3 159 rfl) rfl)⟩
theorem GM_f102 : jFl "GlyphCompilerModel" 102 8 30 := ⟨R_GM, T_GM, 46, rfl, Nat.le_of_ble_eq_true rfl, Or.inl (jin_t (jin_3 152 rfl) rfl)⟩
theorem GM_k197 : Jvm.Cond.constantLong "GlyphCompilerModel" 197 (jL 65536) ∈ jTs := by rw [show jL 65536 = 65536 by decide]; exact (jin_t (jin_4 110 rfl) rfl)
theorem GM_f105 : jFl "GlyphCompilerModel" 105 8 31 := ⟨R_GM, T_GM, 46, rfl, Nat.le_of_ble_eq_true rfl, Or.inl (jin_t (jin_3 153 rfl) rfl)⟩
theorem GM_k219 : Jvm.Cond.constantLong "GlyphCompilerModel" 219 (jL (-65536)) ∈ jTs := by rw [show jL (-65536) = (-65536) by decide]; exact (jin_t (jin_4 115 rfl) rfl)
theorem GM_c221 : jLk "GlyphCompilerModel" 221 Y_GM_scale := Or.inl (jin_t (jin_4 116 rfl) rfl)
theorem GM_c225 : jLk "GlyphCompilerModel" 225 Y_GM_addForm := Or.inl (jin_t (jin_4 131 rfl) rfl)
theorem GM_c189 : jLk "GlyphCompilerModel" 189 Y_GM_times := Or.inl (jin_t (jin_4 120 rfl) rfl)
theorem GM_k183 : Jvm.Cond.constantLong "GlyphCompilerModel" 183 (jL 2) ∈ jTs := by rw [show jL 2 = 2 by decide]; exact (jin_t (jin_4 124 rfl) rfl)
theorem GM_k179 : Jvm.Cond.constantLong "GlyphCompilerModel" 179 (jL 68719476736) ∈ jTs := by rw [show jL 68719476736 = 68719476736 by decide]; exact (jin_t (jin_4 125 rfl) rfl)
theorem GM_c185 : jLk "GlyphCompilerModel" 185 Y_GM_kept := Or.inl (jin_t (jin_4 126 rfl) rfl)
theorem yk_GM_begin : jYok Y_GM_begin 0 := ⟨(jin_t (jin_4 88 rfl) rfl), (jin_t (jin_1 9 rfl) rfl), ⟨by decide +kernel, by decide +kernel⟩, by decide +kernel⟩
theorem yv_GM_begin : Cond.instanceMethod (yN Y_GM_begin) ∈ jTs ∧ Cond.selects (yN Y_GM_begin).cls (yN Y_GM_begin) (yN Y_GM_begin) ∈ jTs := ⟨(jin_t (jin_4 87 rfl) rfl), (jin_p (List.mem_map.mpr ⟨(({ cls := "GlyphCompilerModel", name := "begin", desc := "()Z" } : Jvm.MethodName), 46), by decide +kernel, rfl⟩) rfl)⟩
theorem yk_GM_push : jYok Y_GM_push 1 := ⟨(jin_t (jin_4 92 rfl) rfl), (jin_t (jin_1 9 rfl) rfl), ⟨by decide +kernel, by decide +kernel⟩, by decide +kernel⟩
theorem yv_GM_push : Cond.instanceMethod (yN Y_GM_push) ∈ jTs ∧ Cond.selects (yN Y_GM_push).cls (yN Y_GM_push) (yN Y_GM_push) ∈ jTs := ⟨(jin_t (jin_4 91 rfl) rfl), (jin_p (List.mem_map.mpr ⟨(({ cls := "GlyphCompilerModel", name := "push", desc := "(I)V" } : Jvm.MethodName), 46), by decide +kernel, rfl⟩) rfl)⟩
theorem yk_GM_openBracket : jYok Y_GM_openBracket 0 := ⟨(jin_t (jin_4 97 rfl) rfl), (jin_t (jin_1 9 rfl) rfl), ⟨by decide +kernel, by decide +kernel⟩, by decide +kernel⟩
theorem yv_GM_openBracket : Cond.instanceMethod (yN Y_GM_openBracket) ∈ jTs ∧ Cond.selects (yN Y_GM_openBracket).cls (yN Y_GM_openBracket) (yN Y_GM_openBracket) ∈ jTs := ⟨(jin_t (jin_4 96 rfl) rfl), (jin_p (List.mem_map.mpr ⟨(({ cls := "GlyphCompilerModel", name := "openBracket", desc := "()V" } : Jvm.MethodName), 46), by decide +kernel, rfl⟩) rfl)⟩
theorem yk_GM_syntax : jYok Y_GM_syntax 0 := ⟨(jin_t (jin_4 101 rfl) rfl), (jin_t (jin_1 9 rfl) rfl), ⟨by decide +kernel, by decide +kernel⟩, by decide +kernel⟩
theorem yv_GM_syntax : Cond.instanceMethod (yN Y_GM_syntax) ∈ jTs ∧ Cond.selects (yN Y_GM_syntax).cls (yN Y_GM_syntax) (yN Y_GM_syntax) ∈ jTs := ⟨(jin_t (jin_4 100 rfl) rfl), (jin_p (List.mem_map.mpr ⟨(({ cls := "GlyphCompilerModel", name := "syntax", desc := "()V" } : Jvm.MethodName), 46), by decide +kernel, rfl⟩) rfl)⟩
theorem yk_GM_clear : jYok Y_GM_clear 1 := ⟨(jin_t (jin_4 105 rfl) rfl), (jin_t (jin_1 9 rfl) rfl), ⟨by decide +kernel, by decide +kernel⟩, by decide +kernel⟩
theorem yv_GM_clear : Cond.instanceMethod (yN Y_GM_clear) ∈ jTs ∧ Cond.selects (yN Y_GM_clear).cls (yN Y_GM_clear) (yN Y_GM_clear) ∈ jTs := ⟨(jin_t (jin_4 104 rfl) rfl), (jin_p (List.mem_map.mpr ⟨(({ cls := "GlyphCompilerModel", name := "clear", desc := "(I)V" } : Jvm.MethodName), 46), by decide +kernel, rfl⟩) rfl)⟩
theorem yk_GM_loadVariable : jYok Y_GM_loadVariable 2 := ⟨(jin_t (jin_4 109 rfl) rfl), (jin_t (jin_1 9 rfl) rfl), ⟨by decide +kernel, by decide +kernel⟩, by decide +kernel⟩
theorem yv_GM_loadVariable : Cond.instanceMethod (yN Y_GM_loadVariable) ∈ jTs ∧ Cond.selects (yN Y_GM_loadVariable).cls (yN Y_GM_loadVariable) (yN Y_GM_loadVariable) ∈ jTs := ⟨(jin_t (jin_4 108 rfl) rfl), (jin_p (List.mem_map.mpr ⟨(({ cls := "GlyphCompilerModel", name := "loadVariable", desc := "(II)V" } : Jvm.MethodName), 46), by decide +kernel, rfl⟩) rfl)⟩
theorem yk_GM_finishTerm : jYok Y_GM_finishTerm 1 := ⟨(jin_t (jin_4 114 rfl) rfl), (jin_t (jin_1 9 rfl) rfl), ⟨by decide +kernel, by decide +kernel⟩, by decide +kernel⟩
theorem yv_GM_finishTerm : Cond.instanceMethod (yN Y_GM_finishTerm) ∈ jTs ∧ Cond.selects (yN Y_GM_finishTerm).cls (yN Y_GM_finishTerm) (yN Y_GM_finishTerm) ∈ jTs := ⟨(jin_t (jin_4 113 rfl) rfl), (jin_p (List.mem_map.mpr ⟨(({ cls := "GlyphCompilerModel", name := "finishTerm", desc := "(I)V" } : Jvm.MethodName), 46), by decide +kernel, rfl⟩) rfl)⟩
theorem yk_GM_scale : jYok Y_GM_scale 2 := ⟨(jin_t (jin_4 119 rfl) rfl), (jin_t (jin_1 9 rfl) rfl), ⟨by decide +kernel, by decide +kernel⟩, by decide +kernel⟩
theorem yv_GM_scale : Cond.instanceMethod (yN Y_GM_scale) ∈ jTs ∧ Cond.selects (yN Y_GM_scale).cls (yN Y_GM_scale) (yN Y_GM_scale) ∈ jTs := ⟨(jin_t (jin_4 118 rfl) rfl), (jin_p (List.mem_map.mpr ⟨(({ cls := "GlyphCompilerModel", name := "scale", desc := "(IJ)V" } : Jvm.MethodName), 46), by decide +kernel, rfl⟩) rfl)⟩
theorem yk_GM_times : jYok Y_GM_times 2 := ⟨(jin_t (jin_4 123 rfl) rfl), (jin_t (jin_1 9 rfl) rfl), ⟨by decide +kernel, by decide +kernel⟩, by decide +kernel⟩
theorem yv_GM_times : Cond.instanceMethod (yN Y_GM_times) ∈ jTs ∧ Cond.selects (yN Y_GM_times).cls (yN Y_GM_times) (yN Y_GM_times) ∈ jTs := ⟨(jin_t (jin_4 122 rfl) rfl), (jin_p (List.mem_map.mpr ⟨(({ cls := "GlyphCompilerModel", name := "times", desc := "(JJ)J" } : Jvm.MethodName), 46), by decide +kernel, rfl⟩) rfl)⟩
