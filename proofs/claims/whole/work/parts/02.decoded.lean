theorem dX10_init_0 : decode cX10_init 0 = .ok (.aload_n 0, 1) := by decide +kernel
theorem dX10_init_1 : decode cX10_init 1 = .ok (.invokespecial 1, 3) := by decide +kernel
theorem dX10_init_4 : decode cX10_init 4 = .ok (.aload_n 0, 1) := by decide +kernel
theorem dX10_init_5 : decode cX10_init 5 = .ok (.bipush 30, 2) := by decide +kernel
theorem dX10_init_7 : decode cX10_init 7 = .ok (.newarray .int, 2) := by decide +kernel
theorem dX10_init_9 : decode cX10_init 9 = .ok (.putfield 7, 3) := by decide +kernel
theorem dX10_init_12 : decode cX10_init 12 = .ok (.aload_n 0, 1) := by decide +kernel
theorem dX10_init_13 : decode cX10_init 13 = .ok (.bipush 30, 2) := by decide +kernel
theorem dX10_init_15 : decode cX10_init 15 = .ok (.newarray .int, 2) := by decide +kernel
theorem dX10_init_17 : decode cX10_init 17 = .ok (.putfield 13, 3) := by decide +kernel
theorem dX10_init_20 : decode cX10_init 20 = .ok (.aload_n 0, 1) := by decide +kernel
theorem dX10_init_21 : decode cX10_init 21 = .ok (.bipush 24, 2) := by decide +kernel
theorem dX10_init_23 : decode cX10_init 23 = .ok (.newarray .int, 2) := by decide +kernel
theorem dX10_init_25 : decode cX10_init 25 = .ok (.putfield 16, 3) := by decide +kernel
theorem dX10_init_28 : decode cX10_init 28 = .ok (.aload_n 0, 1) := by decide +kernel
theorem dX10_init_29 : decode cX10_init 29 = .ok (.bipush 24, 2) := by decide +kernel
theorem dX10_init_31 : decode cX10_init 31 = .ok (.newarray .int, 2) := by decide +kernel
theorem dX10_init_33 : decode cX10_init 33 = .ok (.putfield 19, 3) := by decide +kernel
theorem dX10_init_36 : decode cX10_init 36 = .ok (.aload_n 0, 1) := by decide +kernel
theorem dX10_init_37 : decode cX10_init 37 = .ok (.bipush 24, 2) := by decide +kernel
theorem dX10_init_39 : decode cX10_init 39 = .ok (.newarray .int, 2) := by decide +kernel
theorem dX10_init_41 : decode cX10_init 41 = .ok (.putfield 22, 3) := by decide +kernel
theorem dX10_init_44 : decode cX10_init 44 = .ok (.aload_n 0, 1) := by decide +kernel
theorem dX10_init_45 : decode cX10_init 45 = .ok (.bipush 24, 2) := by decide +kernel
theorem dX10_init_47 : decode cX10_init 47 = .ok (.newarray .int, 2) := by decide +kernel
theorem dX10_init_49 : decode cX10_init 49 = .ok (.putfield 25, 3) := by decide +kernel
theorem dX10_init_52 : decode cX10_init 52 = .ok (.aload_n 0, 1) := by decide +kernel
theorem dX10_init_53 : decode cX10_init 53 = .ok (.bipush 24, 2) := by decide +kernel
theorem dX10_init_55 : decode cX10_init 55 = .ok (.newarray .int, 2) := by decide +kernel
theorem dX10_init_57 : decode cX10_init 57 = .ok (.putfield 28, 3) := by decide +kernel
theorem dX10_init_60 : decode cX10_init 60 = .ok (.aload_n 0, 1) := by decide +kernel
theorem dX10_init_61 : decode cX10_init 61 = .ok (.bipush 24, 2) := by decide +kernel
theorem dX10_init_63 : decode cX10_init 63 = .ok (.newarray .int, 2) := by decide +kernel
theorem dX10_init_65 : decode cX10_init 65 = .ok (.putfield 31, 3) := by decide +kernel
theorem dX10_init_68 : decode cX10_init 68 = .ok (.aload_n 0, 1) := by decide +kernel
theorem dX10_init_69 : decode cX10_init 69 = .ok (.sipush 576, 3) := by decide +kernel
theorem dX10_init_72 : decode cX10_init 72 = .ok (.newarray .int, 2) := by decide +kernel
theorem dX10_init_74 : decode cX10_init 74 = .ok (.putfield 34, 3) := by decide +kernel
theorem dX10_init_77 : decode cX10_init 77 = .ok (.aload_n 0, 1) := by decide +kernel
theorem dX10_init_78 : decode cX10_init 78 = .ok (.iconst (-1), 1) := by decide +kernel
theorem dX10_init_79 : decode cX10_init 79 = .ok (.putfield 37, 3) := by decide +kernel
theorem dX10_init_82 : decode cX10_init 82 = .ok (.aload_n 0, 1) := by decide +kernel
theorem dX10_init_83 : decode cX10_init 83 = .ok (.iconst 2, 1) := by decide +kernel
theorem dX10_init_84 : decode cX10_init 84 = .ok (.newarray .int, 2) := by decide +kernel
theorem dX10_init_86 : decode cX10_init 86 = .ok (.putfield 41, 3) := by decide +kernel
theorem dX10_init_89 : decode cX10_init 89 = .ok (.aload_n 0, 1) := by decide +kernel
theorem dX10_init_90 : decode cX10_init 90 = .ok (.bipush 24, 2) := by decide +kernel
theorem dX10_init_92 : decode cX10_init 92 = .ok (.newarray .int, 2) := by decide +kernel
theorem dX10_init_94 : decode cX10_init 94 = .ok (.putfield 44, 3) := by decide +kernel
theorem dX10_init_97 : decode cX10_init 97 = .ok (.aload_n 0, 1) := by decide +kernel
theorem dX10_init_98 : decode cX10_init 98 = .ok (.bipush 24, 2) := by decide +kernel
theorem dX10_init_100 : decode cX10_init 100 = .ok (.newarray .int, 2) := by decide +kernel
theorem dX10_init_102 : decode cX10_init 102 = .ok (.putfield 47, 3) := by decide +kernel
theorem dX10_init_105 : decode cX10_init 105 = .ok (.aload_n 0, 1) := by decide +kernel
theorem dX10_init_106 : decode cX10_init 106 = .ok (.sipush 5000, 3) := by decide +kernel
theorem dX10_init_109 : decode cX10_init 109 = .ok (.newarray .boolean, 2) := by decide +kernel
theorem dX10_init_111 : decode cX10_init 111 = .ok (.putfield 50, 3) := by decide +kernel
theorem dX10_init_114 : decode cX10_init 114 = .ok (.aload_n 0, 1) := by decide +kernel
theorem dX10_init_115 : decode cX10_init 115 = .ok (.bipush 24, 2) := by decide +kernel
theorem dX10_init_117 : decode cX10_init 117 = .ok (.newarray .int, 2) := by decide +kernel
theorem dX10_init_119 : decode cX10_init 119 = .ok (.putfield 54, 3) := by decide +kernel
theorem dX10_init_122 : decode cX10_init 122 = .ok (.aload_n 0, 1) := by decide +kernel
theorem dX10_init_123 : decode cX10_init 123 = .ok (.bipush 10, 2) := by decide +kernel
theorem dX10_init_125 : decode cX10_init 125 = .ok (.putfield 57, 3) := by decide +kernel
theorem dX10_init_128 : decode cX10_init 128 = .ok (.aload_n 0, 1) := by decide +kernel
theorem dX10_init_129 : decode cX10_init 129 = .ok (.sipush 200, 3) := by decide +kernel
theorem dX10_init_132 : decode cX10_init 132 = .ok (.newarray .int, 2) := by decide +kernel
theorem dX10_init_134 : decode cX10_init 134 = .ok (.putfield 60, 3) := by decide +kernel
theorem dX10_init_137 : decode cX10_init 137 = .ok (.aload_n 0, 1) := by decide +kernel
theorem dX10_init_138 : decode cX10_init 138 = .ok (.bipush 7, 2) := by decide +kernel
theorem dX10_init_140 : decode cX10_init 140 = .ok (.newarray .int, 2) := by decide +kernel
theorem dX10_init_142 : decode cX10_init 142 = .ok (.putfield 63, 3) := by decide +kernel
theorem dX10_init_145 : decode cX10_init 145 = .ok (.aload_n 0, 1) := by decide +kernel
theorem dX10_init_146 : decode cX10_init 146 = .ok (.bipush 12, 2) := by decide +kernel
theorem dX10_init_148 : decode cX10_init 148 = .ok (.newarray .int, 2) := by decide +kernel
theorem dX10_init_150 : decode cX10_init 150 = .ok (.putfield 66, 3) := by decide +kernel
theorem dX10_init_153 : decode cX10_init 153 = .ok (.aload_n 0, 1) := by decide +kernel
theorem dX10_init_154 : decode cX10_init 154 = .ok (.bipush 12, 2) := by decide +kernel
theorem dX10_init_156 : decode cX10_init 156 = .ok (.newarray .int, 2) := by decide +kernel
theorem dX10_init_158 : decode cX10_init 158 = .ok (.putfield 69, 3) := by decide +kernel
theorem dX10_init_161 : decode cX10_init 161 = .ok (.aload_n 0, 1) := by decide +kernel
theorem dX10_init_162 : decode cX10_init 162 = .ok (.bipush 12, 2) := by decide +kernel
theorem dX10_init_164 : decode cX10_init 164 = .ok (.newarray .int, 2) := by decide +kernel
theorem dX10_init_166 : decode cX10_init 166 = .ok (.putfield 72, 3) := by decide +kernel
theorem dX10_init_169 : decode cX10_init 169 = .ok (.aload_n 0, 1) := by decide +kernel
theorem dX10_init_170 : decode cX10_init 170 = .ok (.bipush 24, 2) := by decide +kernel
theorem dX10_init_172 : decode cX10_init 172 = .ok (.newarray .int, 2) := by decide +kernel
theorem dX10_init_174 : decode cX10_init 174 = .ok (.putfield 75, 3) := by decide +kernel
theorem dX10_init_177 : decode cX10_init 177 = .ok (.aload_n 0, 1) := by decide +kernel
theorem dX10_init_178 : decode cX10_init 178 = .ok (.sipush 144, 3) := by decide +kernel
theorem dX10_init_181 : decode cX10_init 181 = .ok (.newarray .int, 2) := by decide +kernel
theorem dX10_init_183 : decode cX10_init 183 = .ok (.putfield 78, 3) := by decide +kernel
theorem dX10_init_186 : decode cX10_init 186 = .ok (.aload_n 0, 1) := by decide +kernel
theorem dX10_init_187 : decode cX10_init 187 = .ok (.bipush 7, 2) := by decide +kernel
theorem dX10_init_189 : decode cX10_init 189 = .ok (.newarray .int, 2) := by decide +kernel
theorem dX10_init_191 : decode cX10_init 191 = .ok (.putfield 81, 3) := by decide +kernel
theorem dX10_init_194 : decode cX10_init 194 = .ok (.aload_n 0, 1) := by decide +kernel
theorem dX10_init_195 : decode cX10_init 195 = .ok (.bipush 24, 2) := by decide +kernel
theorem dX10_init_197 : decode cX10_init 197 = .ok (.newarray .int, 2) := by decide +kernel
theorem dX10_init_199 : decode cX10_init 199 = .ok (.putfield 84, 3) := by decide +kernel
theorem dX10_init_202 : decode cX10_init 202 = .ok (.aload_n 0, 1) := by decide +kernel
theorem dX10_init_203 : decode cX10_init 203 = .ok (.bipush 24, 2) := by decide +kernel
theorem dX10_init_205 : decode cX10_init 205 = .ok (.newarray .int, 2) := by decide +kernel
theorem dX10_init_207 : decode cX10_init 207 = .ok (.putfield 87, 3) := by decide +kernel
theorem dX10_init_210 : decode cX10_init 210 = .ok (.aload_n 0, 1) := by decide +kernel
theorem dX10_init_211 : decode cX10_init 211 = .ok (.iconst 4, 1) := by decide +kernel
theorem dX10_init_212 : decode cX10_init 212 = .ok (.newarray .int, 2) := by decide +kernel
theorem dX10_init_214 : decode cX10_init 214 = .ok (.putfield 90, 3) := by decide +kernel
theorem dX10_init_217 : decode cX10_init 217 = .ok (.aload_n 0, 1) := by decide +kernel
theorem dX10_init_218 : decode cX10_init 218 = .ok (.iconst 4, 1) := by decide +kernel
theorem dX10_init_219 : decode cX10_init 219 = .ok (.newarray .int, 2) := by decide +kernel
theorem dX10_init_221 : decode cX10_init 221 = .ok (.putfield 93, 3) := by decide +kernel
theorem dX10_init_224 : decode cX10_init 224 = .ok (.aload_n 0, 1) := by decide +kernel
theorem dX10_init_225 : decode cX10_init 225 = .ok (.iconst 4, 1) := by decide +kernel
theorem dX10_init_226 : decode cX10_init 226 = .ok (.newarray .int, 2) := by decide +kernel
theorem dX10_init_228 : decode cX10_init 228 = .ok (.putfield 96, 3) := by decide +kernel
theorem dX10_init_231 : decode cX10_init 231 = .ok (.aload_n 0, 1) := by decide +kernel
theorem dX10_init_232 : decode cX10_init 232 = .ok (.bipush 40, 2) := by decide +kernel
theorem dX10_init_234 : decode cX10_init 234 = .ok (.newarray .int, 2) := by decide +kernel
theorem dX10_init_236 : decode cX10_init 236 = .ok (.putfield 99, 3) := by decide +kernel
theorem dX10_init_239 : decode cX10_init 239 = .ok (.aload_n 0, 1) := by decide +kernel
theorem dX10_init_240 : decode cX10_init 240 = .ok (.bipush 40, 2) := by decide +kernel
theorem dX10_init_242 : decode cX10_init 242 = .ok (.newarray .int, 2) := by decide +kernel
theorem dX10_init_244 : decode cX10_init 244 = .ok (.putfield 102, 3) := by decide +kernel
theorem dX10_init_247 : decode cX10_init 247 = .ok (.aload_n 0, 1) := by decide +kernel
theorem dX10_init_248 : decode cX10_init 248 = .ok (.bipush 40, 2) := by decide +kernel
theorem dX10_init_250 : decode cX10_init 250 = .ok (.newarray .int, 2) := by decide +kernel
theorem dX10_init_252 : decode cX10_init 252 = .ok (.putfield 105, 3) := by decide +kernel
theorem dX10_init_255 : decode cX10_init 255 = .ok (.aload_n 0, 1) := by decide +kernel
theorem dX10_init_256 : decode cX10_init 256 = .ok (.bipush 30, 2) := by decide +kernel
theorem dX10_init_258 : decode cX10_init 258 = .ok (.newarray .int, 2) := by decide +kernel
theorem dX10_init_260 : decode cX10_init 260 = .ok (.putfield 108, 3) := by decide +kernel
theorem dX10_init_263 : decode cX10_init 263 = .ok (.aload_n 0, 1) := by decide +kernel
theorem dX10_init_264 : decode cX10_init 264 = .ok (.bipush 30, 2) := by decide +kernel
theorem dX10_init_266 : decode cX10_init 266 = .ok (.newarray .int, 2) := by decide +kernel
theorem dX10_init_268 : decode cX10_init 268 = .ok (.putfield 111, 3) := by decide +kernel
theorem dX10_init_271 : decode cX10_init 271 = .ok (.aload_n 0, 1) := by decide +kernel
theorem dX10_init_272 : decode cX10_init 272 = .ok (.bipush 30, 2) := by decide +kernel
theorem dX10_init_274 : decode cX10_init 274 = .ok (.newarray .int, 2) := by decide +kernel
theorem dX10_init_276 : decode cX10_init 276 = .ok (.putfield 114, 3) := by decide +kernel
theorem dX10_init_279 : decode cX10_init 279 = .ok (.aload_n 0, 1) := by decide +kernel
theorem dX10_init_280 : decode cX10_init 280 = .ok (.iconst 4, 1) := by decide +kernel
theorem dX10_init_281 : decode cX10_init 281 = .ok (.newarray .int, 2) := by decide +kernel
theorem dX10_init_283 : decode cX10_init 283 = .ok (.putfield 117, 3) := by decide +kernel
theorem dX10_init_286 : decode cX10_init 286 = .ok (.aload_n 0, 1) := by decide +kernel
theorem dX10_init_287 : decode cX10_init 287 = .ok (.iconst 4, 1) := by decide +kernel
theorem dX10_init_288 : decode cX10_init 288 = .ok (.newarray .int, 2) := by decide +kernel
theorem dX10_init_290 : decode cX10_init 290 = .ok (.putfield 120, 3) := by decide +kernel
theorem dX10_init_293 : decode cX10_init 293 = .ok (.aload_n 0, 1) := by decide +kernel
theorem dX10_init_294 : decode cX10_init 294 = .ok (.sipush 240, 3) := by decide +kernel
theorem dX10_init_297 : decode cX10_init 297 = .ok (.newarray .int, 2) := by decide +kernel
theorem dX10_init_299 : decode cX10_init 299 = .ok (.putfield 123, 3) := by decide +kernel
theorem dX10_init_302 : decode cX10_init 302 = .ok (.aload_n 0, 1) := by decide +kernel
theorem dX10_init_303 : decode cX10_init 303 = .ok (.bipush 60, 2) := by decide +kernel
theorem dX10_init_305 : decode cX10_init 305 = .ok (.newarray .int, 2) := by decide +kernel
theorem dX10_init_307 : decode cX10_init 307 = .ok (.putfield 126, 3) := by decide +kernel
theorem dX10_init_310 : decode cX10_init 310 = .ok (.iconst 0, 1) := by decide +kernel
theorem dX10_init_311 : decode cX10_init 311 = .ok (.istore_n 1, 1) := by decide +kernel
theorem dX10_init_312 : decode cX10_init 312 = .ok (.iload_n 1, 1) := by decide +kernel
theorem dX10_init_313 : decode cX10_init 313 = .ok (.iconst 4, 1) := by decide +kernel
theorem dX10_init_314 : decode cX10_init 314 = .ok (.if_icmp .ge 31, 3) := by decide +kernel
theorem dX10_init_317 : decode cX10_init 317 = .ok (.aload_n 0, 1) := by decide +kernel
theorem dX10_init_318 : decode cX10_init 318 = .ok (.getfield 117, 3) := by decide +kernel
theorem dX10_init_321 : decode cX10_init 321 = .ok (.iload_n 1, 1) := by decide +kernel
theorem dX10_init_322 : decode cX10_init 322 = .ok (.iconst (-1), 1) := by decide +kernel
theorem dX10_init_323 : decode cX10_init 323 = .ok (.iastore, 1) := by decide +kernel
theorem dX10_init_324 : decode cX10_init 324 = .ok (.aload_n 0, 1) := by decide +kernel
theorem dX10_init_325 : decode cX10_init 325 = .ok (.getfield 90, 3) := by decide +kernel
theorem dX10_init_328 : decode cX10_init 328 = .ok (.iload_n 1, 1) := by decide +kernel
theorem dX10_init_329 : decode cX10_init 329 = .ok (.bipush 18, 2) := by decide +kernel
theorem dX10_init_331 : decode cX10_init 331 = .ok (.iastore, 1) := by decide +kernel
theorem dX10_init_332 : decode cX10_init 332 = .ok (.aload_n 0, 1) := by decide +kernel
theorem dX10_init_333 : decode cX10_init 333 = .ok (.getfield 93, 3) := by decide +kernel
theorem dX10_init_336 : decode cX10_init 336 = .ok (.iload_n 1, 1) := by decide +kernel
theorem dX10_init_337 : decode cX10_init 337 = .ok (.iconst (-1), 1) := by decide +kernel
theorem dX10_init_338 : decode cX10_init 338 = .ok (.iastore, 1) := by decide +kernel
theorem dX10_init_339 : decode cX10_init 339 = .ok (.iinc 1 1, 3) := by decide +kernel
theorem dX10_init_342 : decode cX10_init 342 = .ok (.goto (-30), 3) := by decide +kernel
theorem dX10_init_345 : decode cX10_init 345 = .ok (.iconst 0, 1) := by decide +kernel
theorem dX10_init_346 : decode cX10_init 346 = .ok (.istore_n 1, 1) := by decide +kernel
theorem dX10_init_347 : decode cX10_init 347 = .ok (.iload_n 1, 1) := by decide +kernel
theorem dX10_init_348 : decode cX10_init 348 = .ok (.sipush 576, 3) := by decide +kernel
theorem dX10_init_351 : decode cX10_init 351 = .ok (.if_icmp .ge 16, 3) := by decide +kernel
theorem dX10_init_354 : decode cX10_init 354 = .ok (.aload_n 0, 1) := by decide +kernel
theorem dX10_init_355 : decode cX10_init 355 = .ok (.getfield 34, 3) := by decide +kernel
theorem dX10_init_358 : decode cX10_init 358 = .ok (.iload_n 1, 1) := by decide +kernel
theorem dX10_init_359 : decode cX10_init 359 = .ok (.iconst 2, 1) := by decide +kernel
theorem dX10_init_360 : decode cX10_init 360 = .ok (.iastore, 1) := by decide +kernel
theorem dX10_init_361 : decode cX10_init 361 = .ok (.iinc 1 1, 3) := by decide +kernel
theorem dX10_init_364 : decode cX10_init 364 = .ok (.goto (-17), 3) := by decide +kernel
theorem dX10_init_367 : decode cX10_init 367 = .ok (.aload_n 0, 1) := by decide +kernel
theorem dX10_init_368 : decode cX10_init 368 = .ok (.getfield 41, 3) := by decide +kernel
theorem dX10_init_371 : decode cX10_init 371 = .ok (.iconst 0, 1) := by decide +kernel
theorem dX10_init_372 : decode cX10_init 372 = .ok (.bipush 60, 2) := by decide +kernel
theorem dX10_init_374 : decode cX10_init 374 = .ok (.iastore, 1) := by decide +kernel
theorem dX10_init_375 : decode cX10_init 375 = .ok (.aload_n 0, 1) := by decide +kernel
theorem dX10_init_376 : decode cX10_init 376 = .ok (.getfield 41, 3) := by decide +kernel
theorem dX10_init_379 : decode cX10_init 379 = .ok (.iconst 1, 1) := by decide +kernel
theorem dX10_init_380 : decode cX10_init 380 = .ok (.bipush 60, 2) := by decide +kernel
theorem dX10_init_382 : decode cX10_init 382 = .ok (.iastore, 1) := by decide +kernel
theorem dX10_init_383 : decode cX10_init 383 = .ok (.return_, 1) := by decide +kernel
theorem dX10_within_0 : decode cX10_within 0 = .ok (.lload_n 0, 1) := by decide +kernel
theorem dX10_within_1 : decode cX10_within 1 = .ok (.lload_n 2, 1) := by decide +kernel
theorem dX10_within_2 : decode cX10_within 2 = .ok (.lcmp, 1) := by decide +kernel
theorem dX10_within_3 : decode cX10_within 3 = .ok (.ifCond .lt 14, 3) := by decide +kernel
theorem dX10_within_6 : decode cX10_within 6 = .ok (.lload_n 0, 1) := by decide +kernel
theorem dX10_within_7 : decode cX10_within 7 = .ok (.lload 4, 2) := by decide +kernel
theorem dX10_within_9 : decode cX10_within 9 = .ok (.lcmp, 1) := by decide +kernel
theorem dX10_within_10 : decode cX10_within 10 = .ok (.ifCond .gt 7, 3) := by decide +kernel
theorem dX10_within_13 : decode cX10_within 13 = .ok (.iconst 1, 1) := by decide +kernel
theorem dX10_within_14 : decode cX10_within 14 = .ok (.goto 4, 3) := by decide +kernel
theorem dX10_within_17 : decode cX10_within 17 = .ok (.iconst 0, 1) := by decide +kernel
theorem dX10_within_18 : decode cX10_within 18 = .ok (.ireturn, 1) := by decide +kernel
theorem dX10_isHut_0 : decode cX10_isHut 0 = .ok (.iload_n 1, 1) := by decide +kernel
theorem dX10_isHut_1 : decode cX10_isHut 1 = .ok (.i2l, 1) := by decide +kernel
theorem dX10_isHut_2 : decode cX10_isHut 2 = .ok (.lconst 0, 1) := by decide +kernel
theorem dX10_isHut_3 : decode cX10_isHut 3 = .ok (.aload_n 0, 1) := by decide +kernel
theorem dX10_isHut_4 : decode cX10_isHut 4 = .ok (.getfield 129, 3) := by decide +kernel
theorem dX10_isHut_7 : decode cX10_isHut 7 = .ok (.iconst 1, 1) := by decide +kernel
theorem dX10_isHut_8 : decode cX10_isHut 8 = .ok (.isub, 1) := by decide +kernel
theorem dX10_isHut_9 : decode cX10_isHut 9 = .ok (.i2l, 1) := by decide +kernel
theorem dX10_isHut_10 : decode cX10_isHut 10 = .ok (.invokestatic 132, 3) := by decide +kernel
theorem dX10_isHut_13 : decode cX10_isHut 13 = .ok (.ireturn, 1) := by decide +kernel
theorem dX10_isParty_0 : decode cX10_isParty 0 = .ok (.iload_n 1, 1) := by decide +kernel
theorem dX10_isParty_1 : decode cX10_isParty 1 = .ok (.i2l, 1) := by decide +kernel
theorem dX10_isParty_2 : decode cX10_isParty 2 = .ok (.lconst 0, 1) := by decide +kernel
theorem dX10_isParty_3 : decode cX10_isParty 3 = .ok (.aload_n 0, 1) := by decide +kernel
theorem dX10_isParty_4 : decode cX10_isParty 4 = .ok (.getfield 136, 3) := by decide +kernel
theorem dX10_isParty_7 : decode cX10_isParty 7 = .ok (.iconst 1, 1) := by decide +kernel
theorem dX10_isParty_8 : decode cX10_isParty 8 = .ok (.isub, 1) := by decide +kernel
theorem dX10_isParty_9 : decode cX10_isParty 9 = .ok (.i2l, 1) := by decide +kernel
theorem dX10_isParty_10 : decode cX10_isParty 10 = .ok (.invokestatic 132, 3) := by decide +kernel
theorem dX10_isParty_13 : decode cX10_isParty 13 = .ok (.ireturn, 1) := by decide +kernel
theorem dX10_isWeek_0 : decode cX10_isWeek 0 = .ok (.iload_n 0, 1) := by decide +kernel
theorem dX10_isWeek_1 : decode cX10_isWeek 1 = .ok (.i2l, 1) := by decide +kernel
theorem dX10_isWeek_2 : decode cX10_isWeek 2 = .ok (.lconst 0, 1) := by decide +kernel
theorem dX10_isWeek_3 : decode cX10_isWeek 3 = .ok (.ldc2_w 139, 3) := by decide +kernel
theorem dX10_isWeek_6 : decode cX10_isWeek 6 = .ok (.invokestatic 132, 3) := by decide +kernel
theorem dX10_isWeek_9 : decode cX10_isWeek 9 = .ok (.ireturn, 1) := by decide +kernel
theorem dX10_hut_0 : decode cX10_hut 0 = .ok (.iload_n 1, 1) := by decide +kernel
theorem dX10_hut_1 : decode cX10_hut 1 = .ok (.i2l, 1) := by decide +kernel
theorem dX10_hut_2 : decode cX10_hut 2 = .ok (.lconst 0, 1) := by decide +kernel
theorem dX10_hut_3 : decode cX10_hut 3 = .ok (.ldc2_w 141, 3) := by decide +kernel
theorem dX10_hut_6 : decode cX10_hut 6 = .ok (.invokestatic 132, 3) := by decide +kernel
theorem dX10_hut_9 : decode cX10_hut 9 = .ok (.ifCond .eq 15, 3) := by decide +kernel
theorem dX10_hut_12 : decode cX10_hut 12 = .ok (.iload_n 2, 1) := by decide +kernel
theorem dX10_hut_13 : decode cX10_hut 13 = .ok (.i2l, 1) := by decide +kernel
theorem dX10_hut_14 : decode cX10_hut 14 = .ok (.lconst 1, 1) := by decide +kernel
theorem dX10_hut_15 : decode cX10_hut 15 = .ok (.ldc2_w 143, 3) := by decide +kernel
theorem dX10_hut_18 : decode cX10_hut 18 = .ok (.invokestatic 132, 3) := by decide +kernel
theorem dX10_hut_21 : decode cX10_hut 21 = .ok (.ifCond .ne 6, 3) := by decide +kernel
theorem dX10_hut_24 : decode cX10_hut 24 = .ok (.bipush (-2), 2) := by decide +kernel
theorem dX10_hut_26 : decode cX10_hut 26 = .ok (.ireturn, 1) := by decide +kernel
theorem dX10_hut_27 : decode cX10_hut 27 = .ok (.aload_n 0, 1) := by decide +kernel
theorem dX10_hut_28 : decode cX10_hut 28 = .ok (.getfield 129, 3) := by decide +kernel
theorem dX10_hut_31 : decode cX10_hut 31 = .ok (.bipush 30, 2) := by decide +kernel
theorem dX10_hut_33 : decode cX10_hut 33 = .ok (.if_icmp .ne 6, 3) := by decide +kernel
theorem dX10_hut_36 : decode cX10_hut 36 = .ok (.bipush (-4), 2) := by decide +kernel
theorem dX10_hut_38 : decode cX10_hut 38 = .ok (.ireturn, 1) := by decide +kernel
theorem dX10_hut_39 : decode cX10_hut 39 = .ok (.aload_n 0, 1) := by decide +kernel
theorem dX10_hut_40 : decode cX10_hut 40 = .ok (.getfield 7, 3) := by decide +kernel
theorem dX10_hut_43 : decode cX10_hut 43 = .ok (.aload_n 0, 1) := by decide +kernel
theorem dX10_hut_44 : decode cX10_hut 44 = .ok (.getfield 129, 3) := by decide +kernel
theorem dX10_hut_47 : decode cX10_hut 47 = .ok (.iload_n 1, 1) := by decide +kernel
theorem dX10_hut_48 : decode cX10_hut 48 = .ok (.iastore, 1) := by decide +kernel
theorem dX10_hut_49 : decode cX10_hut 49 = .ok (.aload_n 0, 1) := by decide +kernel
theorem dX10_hut_50 : decode cX10_hut 50 = .ok (.getfield 13, 3) := by decide +kernel
theorem dX10_hut_53 : decode cX10_hut 53 = .ok (.aload_n 0, 1) := by decide +kernel
theorem dX10_hut_54 : decode cX10_hut 54 = .ok (.getfield 129, 3) := by decide +kernel
theorem dX10_hut_57 : decode cX10_hut 57 = .ok (.iload_n 2, 1) := by decide +kernel
theorem dX10_hut_58 : decode cX10_hut 58 = .ok (.iastore, 1) := by decide +kernel
theorem dX10_hut_59 : decode cX10_hut 59 = .ok (.aload_n 0, 1) := by decide +kernel
theorem dX10_hut_60 : decode cX10_hut 60 = .ok (.dup, 1) := by decide +kernel
theorem dX10_hut_61 : decode cX10_hut 61 = .ok (.getfield 129, 3) := by decide +kernel
theorem dX10_hut_64 : decode cX10_hut 64 = .ok (.iconst 1, 1) := by decide +kernel
theorem dX10_hut_65 : decode cX10_hut 65 = .ok (.iadd, 1) := by decide +kernel
theorem dX10_hut_66 : decode cX10_hut 66 = .ok (.putfield 129, 3) := by decide +kernel
theorem dX10_hut_69 : decode cX10_hut 69 = .ok (.aload_n 0, 1) := by decide +kernel
theorem dX10_hut_70 : decode cX10_hut 70 = .ok (.getfield 129, 3) := by decide +kernel
theorem dX10_hut_73 : decode cX10_hut 73 = .ok (.iconst 1, 1) := by decide +kernel
theorem dX10_hut_74 : decode cX10_hut 74 = .ok (.isub, 1) := by decide +kernel
theorem dX10_hut_75 : decode cX10_hut 75 = .ok (.ireturn, 1) := by decide +kernel
theorem dX10_party_0 : decode cX10_party 0 = .ok (.iload_n 1, 1) := by decide +kernel
theorem dX10_party_1 : decode cX10_party 1 = .ok (.i2l, 1) := by decide +kernel
theorem dX10_party_2 : decode cX10_party 2 = .ok (.lconst 1, 1) := by decide +kernel
theorem dX10_party_3 : decode cX10_party 3 = .ok (.ldc2_w 143, 3) := by decide +kernel
theorem dX10_party_6 : decode cX10_party 6 = .ok (.invokestatic 132, 3) := by decide +kernel
theorem dX10_party_9 : decode cX10_party 9 = .ok (.ifCond .eq 50, 3) := by decide +kernel
theorem dX10_party_12 : decode cX10_party 12 = .ok (.iload_n 2, 1) := by decide +kernel
theorem dX10_party_13 : decode cX10_party 13 = .ok (.i2l, 1) := by decide +kernel
theorem dX10_party_14 : decode cX10_party 14 = .ok (.lconst 0, 1) := by decide +kernel
theorem dX10_party_15 : decode cX10_party 15 = .ok (.iload_n 1, 1) := by decide +kernel
theorem dX10_party_16 : decode cX10_party 16 = .ok (.i2l, 1) := by decide +kernel
theorem dX10_party_17 : decode cX10_party 17 = .ok (.invokestatic 132, 3) := by decide +kernel
theorem dX10_party_20 : decode cX10_party 20 = .ok (.ifCond .eq 39, 3) := by decide +kernel
theorem dX10_party_23 : decode cX10_party 23 = .ok (.iload_n 3, 1) := by decide +kernel
theorem dX10_party_24 : decode cX10_party 24 = .ok (.invokestatic 145, 3) := by decide +kernel
theorem dX10_party_27 : decode cX10_party 27 = .ok (.ifCond .eq 32, 3) := by decide +kernel
theorem dX10_party_30 : decode cX10_party 30 = .ok (.iload 4, 2) := by decide +kernel
theorem dX10_party_32 : decode cX10_party 32 = .ok (.i2l, 1) := by decide +kernel
theorem dX10_party_33 : decode cX10_party 33 = .ok (.iload_n 3, 1) := by decide +kernel
theorem dX10_party_34 : decode cX10_party 34 = .ok (.i2l, 1) := by decide +kernel
theorem dX10_party_35 : decode cX10_party 35 = .ok (.ldc2_w 139, 3) := by decide +kernel
theorem dX10_party_38 : decode cX10_party 38 = .ok (.invokestatic 132, 3) := by decide +kernel
theorem dX10_party_41 : decode cX10_party 41 = .ok (.ifCond .eq 18, 3) := by decide +kernel
theorem dX10_party_44 : decode cX10_party 44 = .ok (.iload 5, 2) := by decide +kernel
theorem dX10_party_46 : decode cX10_party 46 = .ok (.i2l, 1) := by decide +kernel
theorem dX10_party_47 : decode cX10_party 47 = .ok (.ldc2_w 149, 3) := by decide +kernel
theorem dX10_party_50 : decode cX10_party 50 = .ok (.ldc2_w 139, 3) := by decide +kernel
theorem dX10_party_53 : decode cX10_party 53 = .ok (.invokestatic 132, 3) := by decide +kernel
theorem dX10_party_56 : decode cX10_party 56 = .ok (.ifCond .ne 6, 3) := by decide +kernel
theorem dX10_party_59 : decode cX10_party 59 = .ok (.bipush (-2), 2) := by decide +kernel
theorem dX10_party_61 : decode cX10_party 61 = .ok (.ireturn, 1) := by decide +kernel
theorem dX10_party_62 : decode cX10_party 62 = .ok (.aload_n 0, 1) := by decide +kernel
theorem dX10_party_63 : decode cX10_party 63 = .ok (.getfield 136, 3) := by decide +kernel
theorem dX10_party_66 : decode cX10_party 66 = .ok (.bipush 24, 2) := by decide +kernel
theorem dX10_party_68 : decode cX10_party 68 = .ok (.if_icmp .ne 6, 3) := by decide +kernel
theorem dX10_party_71 : decode cX10_party 71 = .ok (.bipush (-4), 2) := by decide +kernel
theorem dX10_party_73 : decode cX10_party 73 = .ok (.ireturn, 1) := by decide +kernel
theorem dX10_party_74 : decode cX10_party 74 = .ok (.aload_n 0, 1) := by decide +kernel
theorem dX10_party_75 : decode cX10_party 75 = .ok (.getfield 16, 3) := by decide +kernel
theorem dX10_party_78 : decode cX10_party 78 = .ok (.aload_n 0, 1) := by decide +kernel
theorem dX10_party_79 : decode cX10_party 79 = .ok (.getfield 136, 3) := by decide +kernel
theorem dX10_party_82 : decode cX10_party 82 = .ok (.iload_n 1, 1) := by decide +kernel
theorem dX10_party_83 : decode cX10_party 83 = .ok (.iastore, 1) := by decide +kernel
theorem dX10_party_84 : decode cX10_party 84 = .ok (.aload_n 0, 1) := by decide +kernel
theorem dX10_party_85 : decode cX10_party 85 = .ok (.getfield 19, 3) := by decide +kernel
theorem dX10_party_88 : decode cX10_party 88 = .ok (.aload_n 0, 1) := by decide +kernel
theorem dX10_party_89 : decode cX10_party 89 = .ok (.getfield 136, 3) := by decide +kernel
theorem dX10_party_92 : decode cX10_party 92 = .ok (.iload_n 2, 1) := by decide +kernel
theorem dX10_party_93 : decode cX10_party 93 = .ok (.iastore, 1) := by decide +kernel
theorem dX10_party_94 : decode cX10_party 94 = .ok (.aload_n 0, 1) := by decide +kernel
theorem dX10_party_95 : decode cX10_party 95 = .ok (.getfield 22, 3) := by decide +kernel
theorem dX10_party_98 : decode cX10_party 98 = .ok (.aload_n 0, 1) := by decide +kernel
theorem dX10_party_99 : decode cX10_party 99 = .ok (.getfield 136, 3) := by decide +kernel
theorem dX10_party_102 : decode cX10_party 102 = .ok (.iload_n 3, 1) := by decide +kernel
theorem dX10_party_103 : decode cX10_party 103 = .ok (.iastore, 1) := by decide +kernel
theorem dX10_party_104 : decode cX10_party 104 = .ok (.aload_n 0, 1) := by decide +kernel
theorem dX10_party_105 : decode cX10_party 105 = .ok (.getfield 25, 3) := by decide +kernel
theorem dX10_party_108 : decode cX10_party 108 = .ok (.aload_n 0, 1) := by decide +kernel
theorem dX10_party_109 : decode cX10_party 109 = .ok (.getfield 136, 3) := by decide +kernel
theorem dX10_party_112 : decode cX10_party 112 = .ok (.iload 4, 2) := by decide +kernel
theorem dX10_party_114 : decode cX10_party 114 = .ok (.iastore, 1) := by decide +kernel
theorem dX10_party_115 : decode cX10_party 115 = .ok (.aload_n 0, 1) := by decide +kernel
theorem dX10_party_116 : decode cX10_party 116 = .ok (.getfield 28, 3) := by decide +kernel
theorem dX10_party_119 : decode cX10_party 119 = .ok (.aload_n 0, 1) := by decide +kernel
theorem dX10_party_120 : decode cX10_party 120 = .ok (.getfield 136, 3) := by decide +kernel
theorem dX10_party_123 : decode cX10_party 123 = .ok (.iload 5, 2) := by decide +kernel
theorem dX10_party_125 : decode cX10_party 125 = .ok (.iastore, 1) := by decide +kernel
theorem dX10_party_126 : decode cX10_party 126 = .ok (.aload_n 0, 1) := by decide +kernel
theorem dX10_party_127 : decode cX10_party 127 = .ok (.getfield 31, 3) := by decide +kernel
theorem dX10_party_130 : decode cX10_party 130 = .ok (.aload_n 0, 1) := by decide +kernel
theorem dX10_party_131 : decode cX10_party 131 = .ok (.getfield 136, 3) := by decide +kernel
theorem dX10_party_134 : decode cX10_party 134 = .ok (.iconst (-1), 1) := by decide +kernel
theorem dX10_party_135 : decode cX10_party 135 = .ok (.iastore, 1) := by decide +kernel
theorem dX10_party_136 : decode cX10_party 136 = .ok (.aload_n 0, 1) := by decide +kernel
theorem dX10_party_137 : decode cX10_party 137 = .ok (.dup, 1) := by decide +kernel
theorem dX10_party_138 : decode cX10_party 138 = .ok (.getfield 136, 3) := by decide +kernel
theorem dX10_party_141 : decode cX10_party 141 = .ok (.iconst 1, 1) := by decide +kernel
theorem dX10_party_142 : decode cX10_party 142 = .ok (.iadd, 1) := by decide +kernel
theorem dX10_party_143 : decode cX10_party 143 = .ok (.putfield 136, 3) := by decide +kernel
theorem dX10_party_146 : decode cX10_party 146 = .ok (.aload_n 0, 1) := by decide +kernel
theorem dX10_party_147 : decode cX10_party 147 = .ok (.getfield 136, 3) := by decide +kernel
theorem dX10_party_150 : decode cX10_party 150 = .ok (.iconst 1, 1) := by decide +kernel
theorem dX10_party_151 : decode cX10_party 151 = .ok (.isub, 1) := by decide +kernel
theorem dX10_party_152 : decode cX10_party 152 = .ok (.ireturn, 1) := by decide +kernel
theorem dX10_meet_0 : decode cX10_meet 0 = .ok (.aload_n 0, 1) := by decide +kernel
theorem dX10_meet_1 : decode cX10_meet 1 = .ok (.getfield 22, 3) := by decide +kernel
theorem dX10_meet_4 : decode cX10_meet 4 = .ok (.iload_n 1, 1) := by decide +kernel
theorem dX10_meet_5 : decode cX10_meet 5 = .ok (.iaload, 1) := by decide +kernel
theorem dX10_meet_6 : decode cX10_meet 6 = .ok (.aload_n 0, 1) := by decide +kernel
theorem dX10_meet_7 : decode cX10_meet 7 = .ok (.getfield 25, 3) := by decide +kernel
theorem dX10_meet_10 : decode cX10_meet 10 = .ok (.iload_n 2, 1) := by decide +kernel
theorem dX10_meet_11 : decode cX10_meet 11 = .ok (.iaload, 1) := by decide +kernel
theorem dX10_meet_12 : decode cX10_meet 12 = .ok (.if_icmp .gt 22, 3) := by decide +kernel
theorem dX10_meet_15 : decode cX10_meet 15 = .ok (.aload_n 0, 1) := by decide +kernel
theorem dX10_meet_16 : decode cX10_meet 16 = .ok (.getfield 22, 3) := by decide +kernel
theorem dX10_meet_19 : decode cX10_meet 19 = .ok (.iload_n 2, 1) := by decide +kernel
theorem dX10_meet_20 : decode cX10_meet 20 = .ok (.iaload, 1) := by decide +kernel
theorem dX10_meet_21 : decode cX10_meet 21 = .ok (.aload_n 0, 1) := by decide +kernel
theorem dX10_meet_22 : decode cX10_meet 22 = .ok (.getfield 25, 3) := by decide +kernel
theorem dX10_meet_25 : decode cX10_meet 25 = .ok (.iload_n 1, 1) := by decide +kernel
theorem dX10_meet_26 : decode cX10_meet 26 = .ok (.iaload, 1) := by decide +kernel
theorem dX10_meet_27 : decode cX10_meet 27 = .ok (.if_icmp .gt 7, 3) := by decide +kernel
theorem dX10_meet_30 : decode cX10_meet 30 = .ok (.iconst 1, 1) := by decide +kernel
theorem dX10_meet_31 : decode cX10_meet 31 = .ok (.goto 4, 3) := by decide +kernel
theorem dX10_meet_34 : decode cX10_meet 34 = .ok (.iconst 0, 1) := by decide +kernel
theorem dX10_meet_35 : decode cX10_meet 35 = .ok (.ireturn, 1) := by decide +kernel
theorem dX10_tell_0 : decode cX10_tell 0 = .ok (.aload_n 0, 1) := by decide +kernel
theorem dX10_tell_1 : decode cX10_tell 1 = .ok (.iload_n 1, 1) := by decide +kernel
theorem dX10_tell_2 : decode cX10_tell 2 = .ok (.invokevirtual 151, 3) := by decide +kernel
theorem dX10_tell_5 : decode cX10_tell 5 = .ok (.ifCond .eq 28, 3) := by decide +kernel
theorem dX10_tell_8 : decode cX10_tell 8 = .ok (.aload_n 0, 1) := by decide +kernel
theorem dX10_tell_9 : decode cX10_tell 9 = .ok (.iload_n 2, 1) := by decide +kernel
theorem dX10_tell_10 : decode cX10_tell 10 = .ok (.invokevirtual 151, 3) := by decide +kernel
theorem dX10_tell_13 : decode cX10_tell 13 = .ok (.ifCond .eq 20, 3) := by decide +kernel
theorem dX10_tell_16 : decode cX10_tell 16 = .ok (.iload_n 1, 1) := by decide +kernel
theorem dX10_tell_17 : decode cX10_tell 17 = .ok (.iload_n 2, 1) := by decide +kernel
theorem dX10_tell_18 : decode cX10_tell 18 = .ok (.if_icmp .eq 15, 3) := by decide +kernel
theorem dX10_tell_21 : decode cX10_tell 21 = .ok (.iload_n 3, 1) := by decide +kernel
theorem dX10_tell_22 : decode cX10_tell 22 = .ok (.i2l, 1) := by decide +kernel
theorem dX10_tell_23 : decode cX10_tell 23 = .ok (.lconst 0, 1) := by decide +kernel
theorem dX10_tell_24 : decode cX10_tell 24 = .ok (.ldc2_w 154, 3) := by decide +kernel
theorem dX10_tell_27 : decode cX10_tell 27 = .ok (.invokestatic 132, 3) := by decide +kernel
theorem dX10_tell_30 : decode cX10_tell 30 = .ok (.ifCond .ne 6, 3) := by decide +kernel
theorem dX10_tell_33 : decode cX10_tell 33 = .ok (.bipush (-2), 2) := by decide +kernel
theorem dX10_tell_35 : decode cX10_tell 35 = .ok (.ireturn, 1) := by decide +kernel
theorem dX10_tell_36 : decode cX10_tell 36 = .ok (.iload_n 3, 1) := by decide +kernel
theorem dX10_tell_37 : decode cX10_tell 37 = .ok (.iconst 1, 1) := by decide +kernel
theorem dX10_tell_38 : decode cX10_tell 38 = .ok (.if_icmp .ne 60, 3) := by decide +kernel
theorem dX10_tell_41 : decode cX10_tell 41 = .ok (.aload_n 0, 1) := by decide +kernel
theorem dX10_tell_42 : decode cX10_tell 42 = .ok (.getfield 31, 3) := by decide +kernel
theorem dX10_tell_45 : decode cX10_tell 45 = .ok (.iload_n 1, 1) := by decide +kernel
theorem dX10_tell_46 : decode cX10_tell 46 = .ok (.iaload, 1) := by decide +kernel
theorem dX10_tell_47 : decode cX10_tell 47 = .ok (.iconst (-1), 1) := by decide +kernel
theorem dX10_tell_48 : decode cX10_tell 48 = .ok (.if_icmp .eq 50, 3) := by decide +kernel
theorem dX10_tell_51 : decode cX10_tell 51 = .ok (.aload_n 0, 1) := by decide +kernel
theorem dX10_tell_52 : decode cX10_tell 52 = .ok (.getfield 31, 3) := by decide +kernel
theorem dX10_tell_55 : decode cX10_tell 55 = .ok (.iload_n 2, 1) := by decide +kernel
theorem dX10_tell_56 : decode cX10_tell 56 = .ok (.iaload, 1) := by decide +kernel
theorem dX10_tell_57 : decode cX10_tell 57 = .ok (.iconst (-1), 1) := by decide +kernel
theorem dX10_tell_58 : decode cX10_tell 58 = .ok (.if_icmp .eq 40, 3) := by decide +kernel
theorem dX10_tell_61 : decode cX10_tell 61 = .ok (.aload_n 0, 1) := by decide +kernel
theorem dX10_tell_62 : decode cX10_tell 62 = .ok (.getfield 7, 3) := by decide +kernel
theorem dX10_tell_65 : decode cX10_tell 65 = .ok (.aload_n 0, 1) := by decide +kernel
theorem dX10_tell_66 : decode cX10_tell 66 = .ok (.getfield 31, 3) := by decide +kernel
theorem dX10_tell_69 : decode cX10_tell 69 = .ok (.iload_n 1, 1) := by decide +kernel
theorem dX10_tell_70 : decode cX10_tell 70 = .ok (.iaload, 1) := by decide +kernel
theorem dX10_tell_71 : decode cX10_tell 71 = .ok (.iaload, 1) := by decide +kernel
theorem dX10_tell_72 : decode cX10_tell 72 = .ok (.aload_n 0, 1) := by decide +kernel
theorem dX10_tell_73 : decode cX10_tell 73 = .ok (.getfield 7, 3) := by decide +kernel
theorem dX10_tell_76 : decode cX10_tell 76 = .ok (.aload_n 0, 1) := by decide +kernel
theorem dX10_tell_77 : decode cX10_tell 77 = .ok (.getfield 31, 3) := by decide +kernel
theorem dX10_tell_80 : decode cX10_tell 80 = .ok (.iload_n 2, 1) := by decide +kernel
theorem dX10_tell_81 : decode cX10_tell 81 = .ok (.iaload, 1) := by decide +kernel
theorem dX10_tell_82 : decode cX10_tell 82 = .ok (.iaload, 1) := by decide +kernel
theorem dX10_tell_83 : decode cX10_tell 83 = .ok (.if_icmp .ne 15, 3) := by decide +kernel
theorem dX10_tell_86 : decode cX10_tell 86 = .ok (.aload_n 0, 1) := by decide +kernel
theorem dX10_tell_87 : decode cX10_tell 87 = .ok (.iload_n 1, 1) := by decide +kernel
theorem dX10_tell_88 : decode cX10_tell 88 = .ok (.iload_n 2, 1) := by decide +kernel
theorem dX10_tell_89 : decode cX10_tell 89 = .ok (.invokevirtual 156, 3) := by decide +kernel
theorem dX10_tell_92 : decode cX10_tell 92 = .ok (.ifCond .eq 6, 3) := by decide +kernel
theorem dX10_tell_95 : decode cX10_tell 95 = .ok (.bipush (-3), 2) := by decide +kernel
theorem dX10_tell_97 : decode cX10_tell 97 = .ok (.ireturn, 1) := by decide +kernel
theorem dX10_tell_98 : decode cX10_tell 98 = .ok (.aload_n 0, 1) := by decide +kernel
theorem dX10_tell_99 : decode cX10_tell 99 = .ok (.getfield 34, 3) := by decide +kernel
theorem dX10_tell_102 : decode cX10_tell 102 = .ok (.bipush 24, 2) := by decide +kernel
theorem dX10_tell_104 : decode cX10_tell 104 = .ok (.iload_n 1, 1) := by decide +kernel
theorem dX10_tell_105 : decode cX10_tell 105 = .ok (.imul, 1) := by decide +kernel
theorem dX10_tell_106 : decode cX10_tell 106 = .ok (.iload_n 2, 1) := by decide +kernel
theorem dX10_tell_107 : decode cX10_tell 107 = .ok (.iadd, 1) := by decide +kernel
theorem dX10_tell_108 : decode cX10_tell 108 = .ok (.iaload, 1) := by decide +kernel
theorem dX10_tell_109 : decode cX10_tell 109 = .ok (.istore 4, 2) := by decide +kernel
theorem dX10_tell_111 : decode cX10_tell 111 = .ok (.aload_n 0, 1) := by decide +kernel
theorem dX10_tell_112 : decode cX10_tell 112 = .ok (.getfield 34, 3) := by decide +kernel
theorem dX10_tell_115 : decode cX10_tell 115 = .ok (.bipush 24, 2) := by decide +kernel
theorem dX10_tell_117 : decode cX10_tell 117 = .ok (.iload_n 1, 1) := by decide +kernel
theorem dX10_tell_118 : decode cX10_tell 118 = .ok (.imul, 1) := by decide +kernel
theorem dX10_tell_119 : decode cX10_tell 119 = .ok (.iload_n 2, 1) := by decide +kernel
theorem dX10_tell_120 : decode cX10_tell 120 = .ok (.iadd, 1) := by decide +kernel
theorem dX10_tell_121 : decode cX10_tell 121 = .ok (.iload_n 3, 1) := by decide +kernel
theorem dX10_tell_122 : decode cX10_tell 122 = .ok (.iastore, 1) := by decide +kernel
theorem dX10_tell_123 : decode cX10_tell 123 = .ok (.aload_n 0, 1) := by decide +kernel
theorem dX10_tell_124 : decode cX10_tell 124 = .ok (.getfield 34, 3) := by decide +kernel
theorem dX10_tell_127 : decode cX10_tell 127 = .ok (.bipush 24, 2) := by decide +kernel
theorem dX10_tell_129 : decode cX10_tell 129 = .ok (.iload_n 2, 1) := by decide +kernel
theorem dX10_tell_130 : decode cX10_tell 130 = .ok (.imul, 1) := by decide +kernel
theorem dX10_tell_131 : decode cX10_tell 131 = .ok (.iload_n 1, 1) := by decide +kernel
theorem dX10_tell_132 : decode cX10_tell 132 = .ok (.iadd, 1) := by decide +kernel
theorem dX10_tell_133 : decode cX10_tell 133 = .ok (.iload_n 3, 1) := by decide +kernel
theorem dX10_tell_134 : decode cX10_tell 134 = .ok (.iastore, 1) := by decide +kernel
theorem dX10_tell_135 : decode cX10_tell 135 = .ok (.iload 4, 2) := by decide +kernel
theorem dX10_tell_137 : decode cX10_tell 137 = .ok (.ireturn, 1) := by decide +kernel
theorem dX10_isFree_0 : decode cX10_isFree 0 = .ok (.aload_n 0, 1) := by decide +kernel
theorem dX10_isFree_1 : decode cX10_isFree 1 = .ok (.getfield 13, 3) := by decide +kernel
theorem dX10_isFree_4 : decode cX10_isFree 4 = .ok (.iload_n 1, 1) := by decide +kernel
theorem dX10_isFree_5 : decode cX10_isFree 5 = .ok (.iaload, 1) := by decide +kernel
theorem dX10_isFree_6 : decode cX10_isFree 6 = .ok (.aload_n 0, 1) := by decide +kernel
theorem dX10_isFree_7 : decode cX10_isFree 7 = .ok (.getfield 16, 3) := by decide +kernel
theorem dX10_isFree_10 : decode cX10_isFree 10 = .ok (.iload_n 2, 1) := by decide +kernel
theorem dX10_isFree_11 : decode cX10_isFree 11 = .ok (.iaload, 1) := by decide +kernel
theorem dX10_isFree_12 : decode cX10_isFree 12 = .ok (.if_icmp .ge 5, 3) := by decide +kernel
theorem dX10_isFree_15 : decode cX10_isFree 15 = .ok (.iconst 0, 1) := by decide +kernel
theorem dX10_isFree_16 : decode cX10_isFree 16 = .ok (.ireturn, 1) := by decide +kernel
theorem dX10_isFree_17 : decode cX10_isFree 17 = .ok (.iconst 0, 1) := by decide +kernel
theorem dX10_isFree_18 : decode cX10_isFree 18 = .ok (.istore_n 3, 1) := by decide +kernel
theorem dX10_isFree_19 : decode cX10_isFree 19 = .ok (.iload_n 3, 1) := by decide +kernel
theorem dX10_isFree_20 : decode cX10_isFree 20 = .ok (.aload_n 0, 1) := by decide +kernel
theorem dX10_isFree_21 : decode cX10_isFree 21 = .ok (.getfield 136, 3) := by decide +kernel
theorem dX10_isFree_24 : decode cX10_isFree 24 = .ok (.if_icmp .ge 35, 3) := by decide +kernel
theorem dX10_isFree_27 : decode cX10_isFree 27 = .ok (.iload_n 3, 1) := by decide +kernel
theorem dX10_isFree_28 : decode cX10_isFree 28 = .ok (.iload_n 2, 1) := by decide +kernel
theorem dX10_isFree_29 : decode cX10_isFree 29 = .ok (.if_icmp .eq 24, 3) := by decide +kernel
theorem dX10_isFree_32 : decode cX10_isFree 32 = .ok (.aload_n 0, 1) := by decide +kernel
theorem dX10_isFree_33 : decode cX10_isFree 33 = .ok (.getfield 31, 3) := by decide +kernel
theorem dX10_isFree_36 : decode cX10_isFree 36 = .ok (.iload_n 3, 1) := by decide +kernel
theorem dX10_isFree_37 : decode cX10_isFree 37 = .ok (.iaload, 1) := by decide +kernel
theorem dX10_isFree_38 : decode cX10_isFree 38 = .ok (.iload_n 1, 1) := by decide +kernel
theorem dX10_isFree_39 : decode cX10_isFree 39 = .ok (.if_icmp .ne 14, 3) := by decide +kernel
theorem dX10_isFree_42 : decode cX10_isFree 42 = .ok (.aload_n 0, 1) := by decide +kernel
theorem dX10_isFree_43 : decode cX10_isFree 43 = .ok (.iload_n 2, 1) := by decide +kernel
theorem dX10_isFree_44 : decode cX10_isFree 44 = .ok (.iload_n 3, 1) := by decide +kernel
theorem dX10_isFree_45 : decode cX10_isFree 45 = .ok (.invokevirtual 156, 3) := by decide +kernel
theorem dX10_isFree_48 : decode cX10_isFree 48 = .ok (.ifCond .eq 5, 3) := by decide +kernel
theorem dX10_isFree_51 : decode cX10_isFree 51 = .ok (.iconst 0, 1) := by decide +kernel
theorem dX10_isFree_52 : decode cX10_isFree 52 = .ok (.ireturn, 1) := by decide +kernel
theorem dX10_isFree_53 : decode cX10_isFree 53 = .ok (.iinc 3 1, 3) := by decide +kernel
theorem dX10_isFree_56 : decode cX10_isFree 56 = .ok (.goto (-37), 3) := by decide +kernel
theorem dX10_isFree_59 : decode cX10_isFree 59 = .ok (.iconst 1, 1) := by decide +kernel
theorem dX10_isFree_60 : decode cX10_isFree 60 = .ok (.ireturn, 1) := by decide +kernel
theorem dX10_hasTold_0 : decode cX10_hasTold 0 = .ok (.iconst 0, 1) := by decide +kernel
theorem dX10_hasTold_1 : decode cX10_hasTold 1 = .ok (.istore 4, 2) := by decide +kernel
theorem dX10_hasTold_3 : decode cX10_hasTold 3 = .ok (.iload 4, 2) := by decide +kernel
theorem dX10_hasTold_5 : decode cX10_hasTold 5 = .ok (.aload_n 0, 1) := by decide +kernel
theorem dX10_hasTold_6 : decode cX10_hasTold 6 = .ok (.getfield 136, 3) := by decide +kernel
theorem dX10_hasTold_9 : decode cX10_hasTold 9 = .ok (.if_icmp .ge 70, 3) := by decide +kernel
theorem dX10_hasTold_12 : decode cX10_hasTold 12 = .ok (.aload_n 0, 1) := by decide +kernel
theorem dX10_hasTold_13 : decode cX10_hasTold 13 = .ok (.getfield 31, 3) := by decide +kernel
theorem dX10_hasTold_16 : decode cX10_hasTold 16 = .ok (.iload 4, 2) := by decide +kernel
theorem dX10_hasTold_18 : decode cX10_hasTold 18 = .ok (.iaload, 1) := by decide +kernel
theorem dX10_hasTold_19 : decode cX10_hasTold 19 = .ok (.iconst (-1), 1) := by decide +kernel
theorem dX10_hasTold_20 : decode cX10_hasTold 20 = .ok (.if_icmp .eq 53, 3) := by decide +kernel
theorem dX10_hasTold_23 : decode cX10_hasTold 23 = .ok (.aload_n 0, 1) := by decide +kernel
theorem dX10_hasTold_24 : decode cX10_hasTold 24 = .ok (.getfield 7, 3) := by decide +kernel
theorem dX10_hasTold_27 : decode cX10_hasTold 27 = .ok (.aload_n 0, 1) := by decide +kernel
theorem dX10_hasTold_28 : decode cX10_hasTold 28 = .ok (.getfield 31, 3) := by decide +kernel
theorem dX10_hasTold_31 : decode cX10_hasTold 31 = .ok (.iload 4, 2) := by decide +kernel
theorem dX10_hasTold_33 : decode cX10_hasTold 33 = .ok (.iaload, 1) := by decide +kernel
theorem dX10_hasTold_34 : decode cX10_hasTold 34 = .ok (.iaload, 1) := by decide +kernel
theorem dX10_hasTold_35 : decode cX10_hasTold 35 = .ok (.iload_n 1, 1) := by decide +kernel
theorem dX10_hasTold_36 : decode cX10_hasTold 36 = .ok (.if_icmp .ne 37, 3) := by decide +kernel
theorem dX10_hasTold_39 : decode cX10_hasTold 39 = .ok (.aload_n 0, 1) := by decide +kernel
theorem dX10_hasTold_40 : decode cX10_hasTold 40 = .ok (.getfield 34, 3) := by decide +kernel
theorem dX10_hasTold_43 : decode cX10_hasTold 43 = .ok (.bipush 24, 2) := by decide +kernel
theorem dX10_hasTold_45 : decode cX10_hasTold 45 = .ok (.iload_n 2, 1) := by decide +kernel
theorem dX10_hasTold_46 : decode cX10_hasTold 46 = .ok (.imul, 1) := by decide +kernel
theorem dX10_hasTold_47 : decode cX10_hasTold 47 = .ok (.iload 4, 2) := by decide +kernel
theorem dX10_hasTold_49 : decode cX10_hasTold 49 = .ok (.iadd, 1) := by decide +kernel
theorem dX10_hasTold_50 : decode cX10_hasTold 50 = .ok (.iaload, 1) := by decide +kernel
theorem dX10_hasTold_51 : decode cX10_hasTold 51 = .ok (.iload_n 3, 1) := by decide +kernel
theorem dX10_hasTold_52 : decode cX10_hasTold 52 = .ok (.if_icmp .ne 21, 3) := by decide +kernel
theorem dX10_hasTold_55 : decode cX10_hasTold 55 = .ok (.iload 4, 2) := by decide +kernel
theorem dX10_hasTold_57 : decode cX10_hasTold 57 = .ok (.iload_n 2, 1) := by decide +kernel
theorem dX10_hasTold_58 : decode cX10_hasTold 58 = .ok (.if_icmp .eq 15, 3) := by decide +kernel
theorem dX10_hasTold_61 : decode cX10_hasTold 61 = .ok (.aload_n 0, 1) := by decide +kernel
theorem dX10_hasTold_62 : decode cX10_hasTold 62 = .ok (.iload_n 2, 1) := by decide +kernel
theorem dX10_hasTold_63 : decode cX10_hasTold 63 = .ok (.iload 4, 2) := by decide +kernel
theorem dX10_hasTold_65 : decode cX10_hasTold 65 = .ok (.invokevirtual 156, 3) := by decide +kernel
theorem dX10_hasTold_68 : decode cX10_hasTold 68 = .ok (.ifCond .eq 5, 3) := by decide +kernel
theorem dX10_hasTold_71 : decode cX10_hasTold 71 = .ok (.iconst 1, 1) := by decide +kernel
theorem dX10_hasTold_72 : decode cX10_hasTold 72 = .ok (.ireturn, 1) := by decide +kernel
theorem dX10_hasTold_73 : decode cX10_hasTold 73 = .ok (.iinc 4 1, 3) := by decide +kernel
theorem dX10_hasTold_76 : decode cX10_hasTold 76 = .ok (.goto (-73), 3) := by decide +kernel
theorem dX10_hasTold_79 : decode cX10_hasTold 79 = .ok (.iconst 0, 1) := by decide +kernel
theorem dX10_hasTold_80 : decode cX10_hasTold 80 = .ok (.ireturn, 1) := by decide +kernel
theorem dX10_mayLodge_0 : decode cX10_mayLodge 0 = .ok (.aload_n 0, 1) := by decide +kernel
theorem dX10_mayLodge_1 : decode cX10_mayLodge 1 = .ok (.iload_n 1, 1) := by decide +kernel
theorem dX10_mayLodge_2 : decode cX10_mayLodge 2 = .ok (.iload_n 2, 1) := by decide +kernel
theorem dX10_mayLodge_3 : decode cX10_mayLodge 3 = .ok (.invokevirtual 160, 3) := by decide +kernel
theorem dX10_mayLodge_6 : decode cX10_mayLodge 6 = .ok (.ifCond .eq 22, 3) := by decide +kernel
theorem dX10_mayLodge_9 : decode cX10_mayLodge 9 = .ok (.aload_n 0, 1) := by decide +kernel
theorem dX10_mayLodge_10 : decode cX10_mayLodge 10 = .ok (.aload_n 0, 1) := by decide +kernel
theorem dX10_mayLodge_11 : decode cX10_mayLodge 11 = .ok (.getfield 7, 3) := by decide +kernel
theorem dX10_mayLodge_14 : decode cX10_mayLodge 14 = .ok (.iload_n 1, 1) := by decide +kernel
theorem dX10_mayLodge_15 : decode cX10_mayLodge 15 = .ok (.iaload, 1) := by decide +kernel
theorem dX10_mayLodge_16 : decode cX10_mayLodge 16 = .ok (.iload_n 2, 1) := by decide +kernel
theorem dX10_mayLodge_17 : decode cX10_mayLodge 17 = .ok (.iconst 1, 1) := by decide +kernel
theorem dX10_mayLodge_18 : decode cX10_mayLodge 18 = .ok (.invokevirtual 163, 3) := by decide +kernel
theorem dX10_mayLodge_21 : decode cX10_mayLodge 21 = .ok (.ifCond .ne 7, 3) := by decide +kernel
theorem dX10_mayLodge_24 : decode cX10_mayLodge 24 = .ok (.iconst 1, 1) := by decide +kernel
theorem dX10_mayLodge_25 : decode cX10_mayLodge 25 = .ok (.goto 4, 3) := by decide +kernel
theorem dX10_mayLodge_28 : decode cX10_mayLodge 28 = .ok (.iconst 0, 1) := by decide +kernel
theorem dX10_mayLodge_29 : decode cX10_mayLodge 29 = .ok (.ireturn, 1) := by decide +kernel
theorem dX10_dearest_0 : decode cX10_dearest 0 = .ok (.iconst (-1), 1) := by decide +kernel
theorem dX10_dearest_1 : decode cX10_dearest 1 = .ok (.istore_n 3, 1) := by decide +kernel
theorem dX10_dearest_2 : decode cX10_dearest 2 = .ok (.iconst 0, 1) := by decide +kernel
theorem dX10_dearest_3 : decode cX10_dearest 3 = .ok (.istore 4, 2) := by decide +kernel
theorem dX10_dearest_5 : decode cX10_dearest 5 = .ok (.iload 4, 2) := by decide +kernel
theorem dX10_dearest_7 : decode cX10_dearest 7 = .ok (.aload_n 0, 1) := by decide +kernel
theorem dX10_dearest_8 : decode cX10_dearest 8 = .ok (.getfield 129, 3) := by decide +kernel
theorem dX10_dearest_11 : decode cX10_dearest 11 = .ok (.if_icmp .ge 124, 3) := by decide +kernel
theorem dX10_dearest_14 : decode cX10_dearest 14 = .ok (.iload 4, 2) := by decide +kernel
theorem dX10_dearest_16 : decode cX10_dearest 16 = .ok (.iload_n 2, 1) := by decide +kernel
theorem dX10_dearest_17 : decode cX10_dearest 17 = .ok (.if_icmp .eq 112, 3) := by decide +kernel
theorem dX10_dearest_20 : decode cX10_dearest 20 = .ok (.aload_n 0, 1) := by decide +kernel
theorem dX10_dearest_21 : decode cX10_dearest 21 = .ok (.iload 4, 2) := by decide +kernel
theorem dX10_dearest_23 : decode cX10_dearest 23 = .ok (.iload_n 1, 1) := by decide +kernel
theorem dX10_dearest_24 : decode cX10_dearest 24 = .ok (.invokevirtual 167, 3) := by decide +kernel
theorem dX10_dearest_27 : decode cX10_dearest 27 = .ok (.ifCond .eq 102, 3) := by decide +kernel
theorem dX10_dearest_30 : decode cX10_dearest 30 = .ok (.aload_n 0, 1) := by decide +kernel
theorem dX10_dearest_31 : decode cX10_dearest 31 = .ok (.aload_n 0, 1) := by decide +kernel
theorem dX10_dearest_32 : decode cX10_dearest 32 = .ok (.getfield 7, 3) := by decide +kernel
theorem dX10_dearest_35 : decode cX10_dearest 35 = .ok (.iload 4, 2) := by decide +kernel
theorem dX10_dearest_37 : decode cX10_dearest 37 = .ok (.iaload, 1) := by decide +kernel
theorem dX10_dearest_38 : decode cX10_dearest 38 = .ok (.iload_n 1, 1) := by decide +kernel
theorem dX10_dearest_39 : decode cX10_dearest 39 = .ok (.iconst 0, 1) := by decide +kernel
theorem dX10_dearest_40 : decode cX10_dearest 40 = .ok (.invokevirtual 163, 3) := by decide +kernel
theorem dX10_dearest_43 : decode cX10_dearest 43 = .ok (.istore 5, 2) := by decide +kernel
theorem dX10_dearest_45 : decode cX10_dearest 45 = .ok (.iload_n 3, 1) := by decide +kernel
theorem dX10_dearest_46 : decode cX10_dearest 46 = .ok (.iconst (-1), 1) := by decide +kernel
theorem dX10_dearest_47 : decode cX10_dearest 47 = .ok (.if_icmp .eq 22, 3) := by decide +kernel
theorem dX10_dearest_50 : decode cX10_dearest 50 = .ok (.aload_n 0, 1) := by decide +kernel
theorem dX10_dearest_51 : decode cX10_dearest 51 = .ok (.aload_n 0, 1) := by decide +kernel
theorem dX10_dearest_52 : decode cX10_dearest 52 = .ok (.getfield 7, 3) := by decide +kernel
theorem dX10_dearest_55 : decode cX10_dearest 55 = .ok (.iload_n 3, 1) := by decide +kernel
theorem dX10_dearest_56 : decode cX10_dearest 56 = .ok (.iaload, 1) := by decide +kernel
theorem dX10_dearest_57 : decode cX10_dearest 57 = .ok (.iload_n 1, 1) := by decide +kernel
theorem dX10_dearest_58 : decode cX10_dearest 58 = .ok (.iconst 0, 1) := by decide +kernel
theorem dX10_dearest_59 : decode cX10_dearest 59 = .ok (.invokevirtual 163, 3) := by decide +kernel
theorem dX10_dearest_62 : decode cX10_dearest 62 = .ok (.ifCond .eq 7, 3) := by decide +kernel
theorem dX10_dearest_65 : decode cX10_dearest 65 = .ok (.iconst 1, 1) := by decide +kernel
theorem dX10_dearest_66 : decode cX10_dearest 66 = .ok (.goto 4, 3) := by decide +kernel
theorem dX10_dearest_69 : decode cX10_dearest 69 = .ok (.iconst 0, 1) := by decide +kernel
theorem dX10_dearest_70 : decode cX10_dearest 70 = .ok (.istore 6, 2) := by decide +kernel
theorem dX10_dearest_72 : decode cX10_dearest 72 = .ok (.iload_n 3, 1) := by decide +kernel
theorem dX10_dearest_73 : decode cX10_dearest 73 = .ok (.iconst (-1), 1) := by decide +kernel
theorem dX10_dearest_74 : decode cX10_dearest 74 = .ok (.if_icmp .eq 36, 3) := by decide +kernel
theorem dX10_dearest_77 : decode cX10_dearest 77 = .ok (.iload 5, 2) := by decide +kernel
theorem dX10_dearest_79 : decode cX10_dearest 79 = .ok (.ifCond .eq 8, 3) := by decide +kernel
theorem dX10_dearest_82 : decode cX10_dearest 82 = .ok (.iload 6, 2) := by decide +kernel
theorem dX10_dearest_84 : decode cX10_dearest 84 = .ok (.ifCond .eq 26, 3) := by decide +kernel
theorem dX10_dearest_87 : decode cX10_dearest 87 = .ok (.iload 5, 2) := by decide +kernel
theorem dX10_dearest_89 : decode cX10_dearest 89 = .ok (.iload 6, 2) := by decide +kernel
theorem dX10_dearest_91 : decode cX10_dearest 91 = .ok (.if_icmp .ne 23, 3) := by decide +kernel
theorem dX10_dearest_94 : decode cX10_dearest 94 = .ok (.aload_n 0, 1) := by decide +kernel
theorem dX10_dearest_95 : decode cX10_dearest 95 = .ok (.getfield 13, 3) := by decide +kernel
theorem dX10_dearest_98 : decode cX10_dearest 98 = .ok (.iload 4, 2) := by decide +kernel
theorem dX10_dearest_100 : decode cX10_dearest 100 = .ok (.iaload, 1) := by decide +kernel
theorem dX10_dearest_101 : decode cX10_dearest 101 = .ok (.aload_n 0, 1) := by decide +kernel
theorem dX10_dearest_102 : decode cX10_dearest 102 = .ok (.getfield 13, 3) := by decide +kernel
theorem dX10_dearest_105 : decode cX10_dearest 105 = .ok (.iload_n 3, 1) := by decide +kernel
theorem dX10_dearest_106 : decode cX10_dearest 106 = .ok (.iaload, 1) := by decide +kernel
theorem dX10_dearest_107 : decode cX10_dearest 107 = .ok (.if_icmp .ge 7, 3) := by decide +kernel
theorem dX10_dearest_110 : decode cX10_dearest 110 = .ok (.iconst 1, 1) := by decide +kernel
theorem dX10_dearest_111 : decode cX10_dearest 111 = .ok (.goto 4, 3) := by decide +kernel
theorem dX10_dearest_114 : decode cX10_dearest 114 = .ok (.iconst 0, 1) := by decide +kernel
theorem dX10_dearest_115 : decode cX10_dearest 115 = .ok (.istore 7, 2) := by decide +kernel
theorem dX10_dearest_117 : decode cX10_dearest 117 = .ok (.iload 7, 2) := by decide +kernel
theorem dX10_dearest_119 : decode cX10_dearest 119 = .ok (.ifCond .eq 8, 3) := by decide +kernel
theorem dX10_dearest_122 : decode cX10_dearest 122 = .ok (.iload 4, 2) := by decide +kernel
theorem dX10_dearest_124 : decode cX10_dearest 124 = .ok (.goto 4, 3) := by decide +kernel
theorem dX10_dearest_127 : decode cX10_dearest 127 = .ok (.iload_n 3, 1) := by decide +kernel
theorem dX10_dearest_128 : decode cX10_dearest 128 = .ok (.istore_n 3, 1) := by decide +kernel
theorem dX10_dearest_129 : decode cX10_dearest 129 = .ok (.iinc 4 1, 3) := by decide +kernel
theorem dX10_dearest_132 : decode cX10_dearest 132 = .ok (.goto (-127), 3) := by decide +kernel
theorem dX10_dearest_135 : decode cX10_dearest 135 = .ok (.iload_n 3, 1) := by decide +kernel
theorem dX10_dearest_136 : decode cX10_dearest 136 = .ok (.ireturn, 1) := by decide +kernel
theorem dX10_lodge_0 : decode cX10_lodge 0 = .ok (.aload_n 0, 1) := by decide +kernel
theorem dX10_lodge_1 : decode cX10_lodge 1 = .ok (.iload_n 1, 1) := by decide +kernel
theorem dX10_lodge_2 : decode cX10_lodge 2 = .ok (.invokevirtual 151, 3) := by decide +kernel
theorem dX10_lodge_5 : decode cX10_lodge 5 = .ok (.ifCond .ne 6, 3) := by decide +kernel
theorem dX10_lodge_8 : decode cX10_lodge 8 = .ok (.bipush (-2), 2) := by decide +kernel
theorem dX10_lodge_10 : decode cX10_lodge 10 = .ok (.ireturn, 1) := by decide +kernel
theorem dX10_lodge_11 : decode cX10_lodge 11 = .ok (.aload_n 0, 1) := by decide +kernel
theorem dX10_lodge_12 : decode cX10_lodge 12 = .ok (.getfield 31, 3) := by decide +kernel
theorem dX10_lodge_15 : decode cX10_lodge 15 = .ok (.iload_n 1, 1) := by decide +kernel
theorem dX10_lodge_16 : decode cX10_lodge 16 = .ok (.iaload, 1) := by decide +kernel
theorem dX10_lodge_17 : decode cX10_lodge 17 = .ok (.iconst (-1), 1) := by decide +kernel
theorem dX10_lodge_18 : decode cX10_lodge 18 = .ok (.if_icmp .eq 6, 3) := by decide +kernel
theorem dX10_lodge_21 : decode cX10_lodge 21 = .ok (.bipush (-3), 2) := by decide +kernel
theorem dX10_lodge_23 : decode cX10_lodge 23 = .ok (.ireturn, 1) := by decide +kernel
theorem dX10_lodge_24 : decode cX10_lodge 24 = .ok (.aload_n 0, 1) := by decide +kernel
theorem dX10_lodge_25 : decode cX10_lodge 25 = .ok (.iload_n 1, 1) := by decide +kernel
theorem dX10_lodge_26 : decode cX10_lodge 26 = .ok (.iconst (-1), 1) := by decide +kernel
theorem dX10_lodge_27 : decode cX10_lodge 27 = .ok (.invokevirtual 170, 3) := by decide +kernel
theorem dX10_lodge_30 : decode cX10_lodge 30 = .ok (.istore_n 2, 1) := by decide +kernel
theorem dX10_lodge_31 : decode cX10_lodge 31 = .ok (.iload_n 2, 1) := by decide +kernel
theorem dX10_lodge_32 : decode cX10_lodge 32 = .ok (.iconst (-1), 1) := by decide +kernel
theorem dX10_lodge_33 : decode cX10_lodge 33 = .ok (.if_icmp .eq 17, 3) := by decide +kernel
theorem dX10_lodge_36 : decode cX10_lodge 36 = .ok (.aload_n 0, 1) := by decide +kernel
theorem dX10_lodge_37 : decode cX10_lodge 37 = .ok (.getfield 31, 3) := by decide +kernel
theorem dX10_lodge_40 : decode cX10_lodge 40 = .ok (.iload_n 1, 1) := by decide +kernel
theorem dX10_lodge_41 : decode cX10_lodge 41 = .ok (.iload_n 2, 1) := by decide +kernel
theorem dX10_lodge_42 : decode cX10_lodge 42 = .ok (.iastore, 1) := by decide +kernel
theorem dX10_lodge_43 : decode cX10_lodge 43 = .ok (.aload_n 0, 1) := by decide +kernel
theorem dX10_lodge_44 : decode cX10_lodge 44 = .ok (.iconst (-1), 1) := by decide +kernel
theorem dX10_lodge_45 : decode cX10_lodge 45 = .ok (.putfield 37, 3) := by decide +kernel
theorem dX10_lodge_48 : decode cX10_lodge 48 = .ok (.iload_n 2, 1) := by decide +kernel
theorem dX10_lodge_49 : decode cX10_lodge 49 = .ok (.ireturn, 1) := by decide +kernel
theorem dX10_lodge_50 : decode cX10_lodge 50 = .ok (.iconst 0, 1) := by decide +kernel
theorem dX10_lodge_51 : decode cX10_lodge 51 = .ok (.istore_n 3, 1) := by decide +kernel
theorem dX10_lodge_52 : decode cX10_lodge 52 = .ok (.iload_n 3, 1) := by decide +kernel
theorem dX10_lodge_53 : decode cX10_lodge 53 = .ok (.aload_n 0, 1) := by decide +kernel
theorem dX10_lodge_54 : decode cX10_lodge 54 = .ok (.getfield 136, 3) := by decide +kernel
theorem dX10_lodge_57 : decode cX10_lodge 57 = .ok (.if_icmp .ge 94, 3) := by decide +kernel
theorem dX10_lodge_60 : decode cX10_lodge 60 = .ok (.aload_n 0, 1) := by decide +kernel
theorem dX10_lodge_61 : decode cX10_lodge 61 = .ok (.getfield 31, 3) := by decide +kernel
theorem dX10_lodge_64 : decode cX10_lodge 64 = .ok (.iload_n 3, 1) := by decide +kernel
theorem dX10_lodge_65 : decode cX10_lodge 65 = .ok (.iaload, 1) := by decide +kernel
theorem dX10_lodge_66 : decode cX10_lodge 66 = .ok (.istore 4, 2) := by decide +kernel
theorem dX10_lodge_68 : decode cX10_lodge 68 = .ok (.iload 4, 2) := by decide +kernel
theorem dX10_lodge_70 : decode cX10_lodge 70 = .ok (.iconst (-1), 1) := by decide +kernel
theorem dX10_lodge_71 : decode cX10_lodge 71 = .ok (.if_icmp .eq 74, 3) := by decide +kernel
theorem dX10_lodge_74 : decode cX10_lodge 74 = .ok (.aload_n 0, 1) := by decide +kernel
theorem dX10_lodge_75 : decode cX10_lodge 75 = .ok (.getfield 31, 3) := by decide +kernel
theorem dX10_lodge_78 : decode cX10_lodge 78 = .ok (.iload_n 3, 1) := by decide +kernel
theorem dX10_lodge_79 : decode cX10_lodge 79 = .ok (.iconst (-1), 1) := by decide +kernel
theorem dX10_lodge_80 : decode cX10_lodge 80 = .ok (.iastore, 1) := by decide +kernel
theorem dX10_lodge_81 : decode cX10_lodge 81 = .ok (.aload_n 0, 1) := by decide +kernel
theorem dX10_lodge_82 : decode cX10_lodge 82 = .ok (.iload 4, 2) := by decide +kernel
theorem dX10_lodge_84 : decode cX10_lodge 84 = .ok (.iload_n 1, 1) := by decide +kernel
theorem dX10_lodge_85 : decode cX10_lodge 85 = .ok (.invokevirtual 167, 3) := by decide +kernel
theorem dX10_lodge_88 : decode cX10_lodge 88 = .ok (.ifCond .eq 49, 3) := by decide +kernel
theorem dX10_lodge_91 : decode cX10_lodge 91 = .ok (.aload_n 0, 1) := by decide +kernel
theorem dX10_lodge_92 : decode cX10_lodge 92 = .ok (.getfield 31, 3) := by decide +kernel
theorem dX10_lodge_95 : decode cX10_lodge 95 = .ok (.iload_n 1, 1) := by decide +kernel
theorem dX10_lodge_96 : decode cX10_lodge 96 = .ok (.iload 4, 2) := by decide +kernel
theorem dX10_lodge_98 : decode cX10_lodge 98 = .ok (.iastore, 1) := by decide +kernel
theorem dX10_lodge_99 : decode cX10_lodge 99 = .ok (.aload_n 0, 1) := by decide +kernel
theorem dX10_lodge_100 : decode cX10_lodge 100 = .ok (.iload_n 3, 1) := by decide +kernel
theorem dX10_lodge_101 : decode cX10_lodge 101 = .ok (.iload 4, 2) := by decide +kernel
theorem dX10_lodge_103 : decode cX10_lodge 103 = .ok (.invokevirtual 170, 3) := by decide +kernel
theorem dX10_lodge_106 : decode cX10_lodge 106 = .ok (.istore 5, 2) := by decide +kernel
theorem dX10_lodge_108 : decode cX10_lodge 108 = .ok (.iload 5, 2) := by decide +kernel
theorem dX10_lodge_110 : decode cX10_lodge 110 = .ok (.iconst (-1), 1) := by decide +kernel
theorem dX10_lodge_111 : decode cX10_lodge 111 = .ok (.if_icmp .eq 19, 3) := by decide +kernel
theorem dX10_lodge_114 : decode cX10_lodge 114 = .ok (.aload_n 0, 1) := by decide +kernel
theorem dX10_lodge_115 : decode cX10_lodge 115 = .ok (.getfield 31, 3) := by decide +kernel
theorem dX10_lodge_118 : decode cX10_lodge 118 = .ok (.iload_n 3, 1) := by decide +kernel
theorem dX10_lodge_119 : decode cX10_lodge 119 = .ok (.iload 5, 2) := by decide +kernel
theorem dX10_lodge_121 : decode cX10_lodge 121 = .ok (.iastore, 1) := by decide +kernel
theorem dX10_lodge_122 : decode cX10_lodge 122 = .ok (.aload_n 0, 1) := by decide +kernel
theorem dX10_lodge_123 : decode cX10_lodge 123 = .ok (.iload_n 3, 1) := by decide +kernel
theorem dX10_lodge_124 : decode cX10_lodge 124 = .ok (.putfield 37, 3) := by decide +kernel
theorem dX10_lodge_127 : decode cX10_lodge 127 = .ok (.iload 4, 2) := by decide +kernel
theorem dX10_lodge_129 : decode cX10_lodge 129 = .ok (.ireturn, 1) := by decide +kernel
theorem dX10_lodge_130 : decode cX10_lodge 130 = .ok (.aload_n 0, 1) := by decide +kernel
theorem dX10_lodge_131 : decode cX10_lodge 131 = .ok (.getfield 31, 3) := by decide +kernel
theorem dX10_lodge_134 : decode cX10_lodge 134 = .ok (.iload_n 1, 1) := by decide +kernel
theorem dX10_lodge_135 : decode cX10_lodge 135 = .ok (.iconst (-1), 1) := by decide +kernel
theorem dX10_lodge_136 : decode cX10_lodge 136 = .ok (.iastore, 1) := by decide +kernel
theorem dX10_lodge_137 : decode cX10_lodge 137 = .ok (.aload_n 0, 1) := by decide +kernel
theorem dX10_lodge_138 : decode cX10_lodge 138 = .ok (.getfield 31, 3) := by decide +kernel
theorem dX10_lodge_141 : decode cX10_lodge 141 = .ok (.iload_n 3, 1) := by decide +kernel
theorem dX10_lodge_142 : decode cX10_lodge 142 = .ok (.iload 4, 2) := by decide +kernel
theorem dX10_lodge_144 : decode cX10_lodge 144 = .ok (.iastore, 1) := by decide +kernel
theorem dX10_lodge_145 : decode cX10_lodge 145 = .ok (.iinc 3 1, 3) := by decide +kernel
theorem dX10_lodge_148 : decode cX10_lodge 148 = .ok (.goto (-96), 3) := by decide +kernel
theorem dX10_lodge_151 : decode cX10_lodge 151 = .ok (.iconst (-1), 1) := by decide +kernel
theorem dX10_lodge_152 : decode cX10_lodge 152 = .ok (.ireturn, 1) := by decide +kernel
theorem dX10_moved_0 : decode cX10_moved 0 = .ok (.aload_n 0, 1) := by decide +kernel
theorem dX10_moved_1 : decode cX10_moved 1 = .ok (.getfield 37, 3) := by decide +kernel
theorem dX10_moved_4 : decode cX10_moved 4 = .ok (.ireturn, 1) := by decide +kernel
theorem dX10_leave_0 : decode cX10_leave 0 = .ok (.aload_n 0, 1) := by decide +kernel
theorem dX10_leave_1 : decode cX10_leave 1 = .ok (.iload_n 1, 1) := by decide +kernel
theorem dX10_leave_2 : decode cX10_leave 2 = .ok (.invokevirtual 151, 3) := by decide +kernel
theorem dX10_leave_5 : decode cX10_leave 5 = .ok (.ifCond .ne 6, 3) := by decide +kernel
theorem dX10_leave_8 : decode cX10_leave 8 = .ok (.bipush (-2), 2) := by decide +kernel
theorem dX10_leave_10 : decode cX10_leave 10 = .ok (.ireturn, 1) := by decide +kernel
theorem dX10_leave_11 : decode cX10_leave 11 = .ok (.aload_n 0, 1) := by decide +kernel
theorem dX10_leave_12 : decode cX10_leave 12 = .ok (.getfield 31, 3) := by decide +kernel
theorem dX10_leave_15 : decode cX10_leave 15 = .ok (.iload_n 1, 1) := by decide +kernel
theorem dX10_leave_16 : decode cX10_leave 16 = .ok (.iaload, 1) := by decide +kernel
theorem dX10_leave_17 : decode cX10_leave 17 = .ok (.iconst (-1), 1) := by decide +kernel
theorem dX10_leave_18 : decode cX10_leave 18 = .ok (.if_icmp .ne 6, 3) := by decide +kernel
theorem dX10_leave_21 : decode cX10_leave 21 = .ok (.bipush (-3), 2) := by decide +kernel
theorem dX10_leave_23 : decode cX10_leave 23 = .ok (.ireturn, 1) := by decide +kernel
theorem dX10_leave_24 : decode cX10_leave 24 = .ok (.aload_n 0, 1) := by decide +kernel
theorem dX10_leave_25 : decode cX10_leave 25 = .ok (.getfield 31, 3) := by decide +kernel
theorem dX10_leave_28 : decode cX10_leave 28 = .ok (.iload_n 1, 1) := by decide +kernel
theorem dX10_leave_29 : decode cX10_leave 29 = .ok (.iaload, 1) := by decide +kernel
theorem dX10_leave_30 : decode cX10_leave 30 = .ok (.istore_n 2, 1) := by decide +kernel
theorem dX10_leave_31 : decode cX10_leave 31 = .ok (.aload_n 0, 1) := by decide +kernel
theorem dX10_leave_32 : decode cX10_leave 32 = .ok (.getfield 31, 3) := by decide +kernel
theorem dX10_leave_35 : decode cX10_leave 35 = .ok (.iload_n 1, 1) := by decide +kernel
theorem dX10_leave_36 : decode cX10_leave 36 = .ok (.iconst (-1), 1) := by decide +kernel
theorem dX10_leave_37 : decode cX10_leave 37 = .ok (.iastore, 1) := by decide +kernel
theorem dX10_leave_38 : decode cX10_leave 38 = .ok (.iload_n 2, 1) := by decide +kernel
theorem dX10_leave_39 : decode cX10_leave 39 = .ok (.ireturn, 1) := by decide +kernel
theorem dX10_about_0 : decode cX10_about 0 = .ok (.aload_n 0, 1) := by decide +kernel
theorem dX10_about_1 : decode cX10_about 1 = .ok (.iload_n 1, 1) := by decide +kernel
theorem dX10_about_2 : decode cX10_about 2 = .ok (.invokevirtual 151, 3) := by decide +kernel
theorem dX10_about_5 : decode cX10_about 5 = .ok (.ifCond .ne 6, 3) := by decide +kernel
theorem dX10_about_8 : decode cX10_about 8 = .ok (.bipush (-2), 2) := by decide +kernel
theorem dX10_about_10 : decode cX10_about 10 = .ok (.ireturn, 1) := by decide +kernel
theorem dX10_about_11 : decode cX10_about 11 = .ok (.iload_n 2, 1) := by decide +kernel
theorem dX10_about_12 : decode cX10_about 12 = .ok (.tableswitch 82 0 5 #[40, 47, 54, 61, 68, 75], 40) := by decide +kernel
theorem dX10_about_52 : decode cX10_about 52 = .ok (.aload_n 0, 1) := by decide +kernel
theorem dX10_about_53 : decode cX10_about 53 = .ok (.getfield 16, 3) := by decide +kernel
theorem dX10_about_56 : decode cX10_about 56 = .ok (.iload_n 1, 1) := by decide +kernel
theorem dX10_about_57 : decode cX10_about 57 = .ok (.iaload, 1) := by decide +kernel
theorem dX10_about_58 : decode cX10_about 58 = .ok (.ireturn, 1) := by decide +kernel
theorem dX10_about_59 : decode cX10_about 59 = .ok (.aload_n 0, 1) := by decide +kernel
theorem dX10_about_60 : decode cX10_about 60 = .ok (.getfield 19, 3) := by decide +kernel
theorem dX10_about_63 : decode cX10_about 63 = .ok (.iload_n 1, 1) := by decide +kernel
theorem dX10_about_64 : decode cX10_about 64 = .ok (.iaload, 1) := by decide +kernel
theorem dX10_about_65 : decode cX10_about 65 = .ok (.ireturn, 1) := by decide +kernel
theorem dX10_about_66 : decode cX10_about 66 = .ok (.aload_n 0, 1) := by decide +kernel
theorem dX10_about_67 : decode cX10_about 67 = .ok (.getfield 22, 3) := by decide +kernel
theorem dX10_about_70 : decode cX10_about 70 = .ok (.iload_n 1, 1) := by decide +kernel
theorem dX10_about_71 : decode cX10_about 71 = .ok (.iaload, 1) := by decide +kernel
theorem dX10_about_72 : decode cX10_about 72 = .ok (.ireturn, 1) := by decide +kernel
theorem dX10_about_73 : decode cX10_about 73 = .ok (.aload_n 0, 1) := by decide +kernel
theorem dX10_about_74 : decode cX10_about 74 = .ok (.getfield 25, 3) := by decide +kernel
theorem dX10_about_77 : decode cX10_about 77 = .ok (.iload_n 1, 1) := by decide +kernel
theorem dX10_about_78 : decode cX10_about 78 = .ok (.iaload, 1) := by decide +kernel
theorem dX10_about_79 : decode cX10_about 79 = .ok (.ireturn, 1) := by decide +kernel
theorem dX10_about_80 : decode cX10_about 80 = .ok (.aload_n 0, 1) := by decide +kernel
theorem dX10_about_81 : decode cX10_about 81 = .ok (.getfield 28, 3) := by decide +kernel
theorem dX10_about_84 : decode cX10_about 84 = .ok (.iload_n 1, 1) := by decide +kernel
theorem dX10_about_85 : decode cX10_about 85 = .ok (.iaload, 1) := by decide +kernel
theorem dX10_about_86 : decode cX10_about 86 = .ok (.ireturn, 1) := by decide +kernel
theorem dX10_about_87 : decode cX10_about 87 = .ok (.aload_n 0, 1) := by decide +kernel
theorem dX10_about_88 : decode cX10_about 88 = .ok (.getfield 31, 3) := by decide +kernel
theorem dX10_about_91 : decode cX10_about 91 = .ok (.iload_n 1, 1) := by decide +kernel
theorem dX10_about_92 : decode cX10_about 92 = .ok (.iaload, 1) := by decide +kernel
theorem dX10_about_93 : decode cX10_about 93 = .ok (.ireturn, 1) := by decide +kernel
theorem dX10_about_94 : decode cX10_about 94 = .ok (.bipush (-2), 2) := by decide +kernel
theorem dX10_about_96 : decode cX10_about 96 = .ok (.ireturn, 1) := by decide +kernel
theorem dX10_isThere_0 : decode cX10_isThere 0 = .ok (.aload_n 0, 1) := by decide +kernel
theorem dX10_isThere_1 : decode cX10_isThere 1 = .ok (.getfield 31, 3) := by decide +kernel
theorem dX10_isThere_4 : decode cX10_isThere 4 = .ok (.iload_n 1, 1) := by decide +kernel
theorem dX10_isThere_5 : decode cX10_isThere 5 = .ok (.iaload, 1) := by decide +kernel
theorem dX10_isThere_6 : decode cX10_isThere 6 = .ok (.iconst (-1), 1) := by decide +kernel
theorem dX10_isThere_7 : decode cX10_isThere 7 = .ok (.if_icmp .eq 29, 3) := by decide +kernel
theorem dX10_isThere_10 : decode cX10_isThere 10 = .ok (.iload_n 2, 1) := by decide +kernel
theorem dX10_isThere_11 : decode cX10_isThere 11 = .ok (.i2l, 1) := by decide +kernel
theorem dX10_isThere_12 : decode cX10_isThere 12 = .ok (.aload_n 0, 1) := by decide +kernel
theorem dX10_isThere_13 : decode cX10_isThere 13 = .ok (.getfield 22, 3) := by decide +kernel
theorem dX10_isThere_16 : decode cX10_isThere 16 = .ok (.iload_n 1, 1) := by decide +kernel
theorem dX10_isThere_17 : decode cX10_isThere 17 = .ok (.iaload, 1) := by decide +kernel
theorem dX10_isThere_18 : decode cX10_isThere 18 = .ok (.i2l, 1) := by decide +kernel
theorem dX10_isThere_19 : decode cX10_isThere 19 = .ok (.aload_n 0, 1) := by decide +kernel
theorem dX10_isThere_20 : decode cX10_isThere 20 = .ok (.getfield 25, 3) := by decide +kernel
theorem dX10_isThere_23 : decode cX10_isThere 23 = .ok (.iload_n 1, 1) := by decide +kernel
theorem dX10_isThere_24 : decode cX10_isThere 24 = .ok (.iaload, 1) := by decide +kernel
theorem dX10_isThere_25 : decode cX10_isThere 25 = .ok (.i2l, 1) := by decide +kernel
theorem dX10_isThere_26 : decode cX10_isThere 26 = .ok (.invokestatic 132, 3) := by decide +kernel
theorem dX10_isThere_29 : decode cX10_isThere 29 = .ok (.ifCond .eq 7, 3) := by decide +kernel
theorem dX10_isThere_32 : decode cX10_isThere 32 = .ok (.iconst 1, 1) := by decide +kernel
theorem dX10_isThere_33 : decode cX10_isThere 33 = .ok (.goto 4, 3) := by decide +kernel
theorem dX10_isThere_36 : decode cX10_isThere 36 = .ok (.iconst 0, 1) := by decide +kernel
theorem dX10_isThere_37 : decode cX10_isThere 37 = .ok (.ireturn, 1) := by decide +kernel
theorem dX10_who_0 : decode cX10_who 0 = .ok (.iconst 0, 1) := by decide +kernel
theorem dX10_who_1 : decode cX10_who 1 = .ok (.istore_n 3, 1) := by decide +kernel
theorem dX10_who_2 : decode cX10_who 2 = .ok (.iload_n 3, 1) := by decide +kernel
theorem dX10_who_3 : decode cX10_who 3 = .ok (.aload_n 0, 1) := by decide +kernel
theorem dX10_who_4 : decode cX10_who 4 = .ok (.getfield 136, 3) := by decide +kernel
theorem dX10_who_7 : decode cX10_who 7 = .ok (.if_icmp .ge 30, 3) := by decide +kernel
theorem dX10_who_10 : decode cX10_who 10 = .ok (.aload_n 0, 1) := by decide +kernel
theorem dX10_who_11 : decode cX10_who 11 = .ok (.getfield 31, 3) := by decide +kernel
theorem dX10_who_14 : decode cX10_who 14 = .ok (.iload_n 3, 1) := by decide +kernel
theorem dX10_who_15 : decode cX10_who 15 = .ok (.iaload, 1) := by decide +kernel
theorem dX10_who_16 : decode cX10_who 16 = .ok (.iload_n 1, 1) := by decide +kernel
theorem dX10_who_17 : decode cX10_who 17 = .ok (.if_icmp .ne 14, 3) := by decide +kernel
theorem dX10_who_20 : decode cX10_who 20 = .ok (.aload_n 0, 1) := by decide +kernel
theorem dX10_who_21 : decode cX10_who 21 = .ok (.iload_n 3, 1) := by decide +kernel
theorem dX10_who_22 : decode cX10_who 22 = .ok (.iload_n 2, 1) := by decide +kernel
theorem dX10_who_23 : decode cX10_who 23 = .ok (.invokevirtual 174, 3) := by decide +kernel
theorem dX10_who_26 : decode cX10_who 26 = .ok (.ifCond .eq 5, 3) := by decide +kernel
theorem dX10_who_29 : decode cX10_who 29 = .ok (.iload_n 3, 1) := by decide +kernel
theorem dX10_who_30 : decode cX10_who 30 = .ok (.ireturn, 1) := by decide +kernel
theorem dX10_who_31 : decode cX10_who 31 = .ok (.iinc 3 1, 3) := by decide +kernel
theorem dX10_who_34 : decode cX10_who 34 = .ok (.goto (-32), 3) := by decide +kernel
theorem dX10_who_37 : decode cX10_who 37 = .ok (.iconst (-1), 1) := by decide +kernel
theorem dX10_who_38 : decode cX10_who 38 = .ok (.ireturn, 1) := by decide +kernel
theorem dX10_in_0 : decode cX10_in 0 = .ok (.aload_n 0, 1) := by decide +kernel
theorem dX10_in_1 : decode cX10_in 1 = .ok (.iload_n 1, 1) := by decide +kernel
theorem dX10_in_2 : decode cX10_in 2 = .ok (.invokevirtual 177, 3) := by decide +kernel
theorem dX10_in_5 : decode cX10_in 5 = .ok (.ifCond .eq 19, 3) := by decide +kernel
theorem dX10_in_8 : decode cX10_in 8 = .ok (.iload_n 2, 1) := by decide +kernel
theorem dX10_in_9 : decode cX10_in 9 = .ok (.invokestatic 145, 3) := by decide +kernel
theorem dX10_in_12 : decode cX10_in 12 = .ok (.ifCond .eq 12, 3) := by decide +kernel
theorem dX10_in_15 : decode cX10_in 15 = .ok (.aload_n 0, 1) := by decide +kernel
theorem dX10_in_16 : decode cX10_in 16 = .ok (.iload_n 1, 1) := by decide +kernel
theorem dX10_in_17 : decode cX10_in 17 = .ok (.iload_n 2, 1) := by decide +kernel
theorem dX10_in_18 : decode cX10_in 18 = .ok (.invokevirtual 180, 3) := by decide +kernel
theorem dX10_in_21 : decode cX10_in 21 = .ok (.goto 5, 3) := by decide +kernel
theorem dX10_in_24 : decode cX10_in 24 = .ok (.bipush (-2), 2) := by decide +kernel
theorem dX10_in_26 : decode cX10_in 26 = .ok (.ireturn, 1) := by decide +kernel
theorem dX10_empty_0 : decode cX10_empty 0 = .ok (.iload_n 1, 1) := by decide +kernel
theorem dX10_empty_1 : decode cX10_empty 1 = .ok (.invokestatic 145, 3) := by decide +kernel
theorem dX10_empty_4 : decode cX10_empty 4 = .ok (.ifCond .ne 6, 3) := by decide +kernel
theorem dX10_empty_7 : decode cX10_empty 7 = .ok (.bipush (-2), 2) := by decide +kernel
theorem dX10_empty_9 : decode cX10_empty 9 = .ok (.ireturn, 1) := by decide +kernel
theorem dX10_empty_10 : decode cX10_empty 10 = .ok (.iconst 0, 1) := by decide +kernel
theorem dX10_empty_11 : decode cX10_empty 11 = .ok (.istore_n 2, 1) := by decide +kernel
theorem dX10_empty_12 : decode cX10_empty 12 = .ok (.iconst 0, 1) := by decide +kernel
theorem dX10_empty_13 : decode cX10_empty 13 = .ok (.istore_n 3, 1) := by decide +kernel
theorem dX10_empty_14 : decode cX10_empty 14 = .ok (.iload_n 3, 1) := by decide +kernel
theorem dX10_empty_15 : decode cX10_empty 15 = .ok (.aload_n 0, 1) := by decide +kernel
theorem dX10_empty_16 : decode cX10_empty 16 = .ok (.getfield 129, 3) := by decide +kernel
theorem dX10_empty_19 : decode cX10_empty 19 = .ok (.if_icmp .ge 32, 3) := by decide +kernel
theorem dX10_empty_22 : decode cX10_empty 22 = .ok (.iload_n 2, 1) := by decide +kernel
theorem dX10_empty_23 : decode cX10_empty 23 = .ok (.aload_n 0, 1) := by decide +kernel
theorem dX10_empty_24 : decode cX10_empty 24 = .ok (.iload_n 3, 1) := by decide +kernel
theorem dX10_empty_25 : decode cX10_empty 25 = .ok (.iload_n 1, 1) := by decide +kernel
theorem dX10_empty_26 : decode cX10_empty 26 = .ok (.invokevirtual 180, 3) := by decide +kernel
theorem dX10_empty_29 : decode cX10_empty 29 = .ok (.iconst (-1), 1) := by decide +kernel
theorem dX10_empty_30 : decode cX10_empty 30 = .ok (.if_icmp .ne 12, 3) := by decide +kernel
theorem dX10_empty_33 : decode cX10_empty 33 = .ok (.aload_n 0, 1) := by decide +kernel
theorem dX10_empty_34 : decode cX10_empty 34 = .ok (.getfield 13, 3) := by decide +kernel
theorem dX10_empty_37 : decode cX10_empty 37 = .ok (.iload_n 3, 1) := by decide +kernel
theorem dX10_empty_38 : decode cX10_empty 38 = .ok (.iaload, 1) := by decide +kernel
theorem dX10_empty_39 : decode cX10_empty 39 = .ok (.goto 4, 3) := by decide +kernel
theorem dX10_empty_42 : decode cX10_empty 42 = .ok (.iconst 0, 1) := by decide +kernel
theorem dX10_empty_43 : decode cX10_empty 43 = .ok (.iadd, 1) := by decide +kernel
theorem dX10_empty_44 : decode cX10_empty 44 = .ok (.istore_n 2, 1) := by decide +kernel
theorem dX10_empty_45 : decode cX10_empty 45 = .ok (.iinc 3 1, 3) := by decide +kernel
theorem dX10_empty_48 : decode cX10_empty 48 = .ok (.goto (-34), 3) := by decide +kernel
theorem dX10_empty_51 : decode cX10_empty 51 = .ok (.iload_n 2, 1) := by decide +kernel
theorem dX10_empty_52 : decode cX10_empty 52 = .ok (.ireturn, 1) := by decide +kernel
theorem dX10_seats_0 : decode cX10_seats 0 = .ok (.iload_n 1, 1) := by decide +kernel
theorem dX10_seats_1 : decode cX10_seats 1 = .ok (.i2l, 1) := by decide +kernel
theorem dX10_seats_2 : decode cX10_seats 2 = .ok (.lconst 0, 1) := by decide +kernel
theorem dX10_seats_3 : decode cX10_seats 3 = .ok (.ldc2_w 183, 3) := by decide +kernel
theorem dX10_seats_6 : decode cX10_seats 6 = .ok (.invokestatic 132, 3) := by decide +kernel
theorem dX10_seats_9 : decode cX10_seats 9 = .ok (.ifCond .eq 15, 3) := by decide +kernel
theorem dX10_seats_12 : decode cX10_seats 12 = .ok (.iload_n 2, 1) := by decide +kernel
theorem dX10_seats_13 : decode cX10_seats 13 = .ok (.i2l, 1) := by decide +kernel
theorem dX10_seats_14 : decode cX10_seats 14 = .ok (.lconst 0, 1) := by decide +kernel
theorem dX10_seats_15 : decode cX10_seats 15 = .ok (.ldc2_w 183, 3) := by decide +kernel
theorem dX10_seats_18 : decode cX10_seats 18 = .ok (.invokestatic 132, 3) := by decide +kernel
theorem dX10_seats_21 : decode cX10_seats 21 = .ok (.ifCond .ne 6, 3) := by decide +kernel
theorem dX10_seats_24 : decode cX10_seats 24 = .ok (.bipush (-2), 2) := by decide +kernel
theorem dX10_seats_26 : decode cX10_seats 26 = .ok (.ireturn, 1) := by decide +kernel
theorem dX10_seats_27 : decode cX10_seats 27 = .ok (.aload_n 0, 1) := by decide +kernel
theorem dX10_seats_28 : decode cX10_seats 28 = .ok (.getfield 41, 3) := by decide +kernel
theorem dX10_seats_31 : decode cX10_seats 31 = .ok (.iconst 0, 1) := by decide +kernel
theorem dX10_seats_32 : decode cX10_seats 32 = .ok (.iload_n 1, 1) := by decide +kernel
theorem dX10_seats_33 : decode cX10_seats 33 = .ok (.iastore, 1) := by decide +kernel
theorem dX10_seats_34 : decode cX10_seats 34 = .ok (.aload_n 0, 1) := by decide +kernel
theorem dX10_seats_35 : decode cX10_seats 35 = .ok (.getfield 41, 3) := by decide +kernel
theorem dX10_seats_38 : decode cX10_seats 38 = .ok (.iconst 1, 1) := by decide +kernel
theorem dX10_seats_39 : decode cX10_seats 39 = .ok (.iload_n 2, 1) := by decide +kernel
theorem dX10_seats_40 : decode cX10_seats 40 = .ok (.iastore, 1) := by decide +kernel
theorem dX10_seats_41 : decode cX10_seats 41 = .ok (.iconst 1, 1) := by decide +kernel
theorem dX10_seats_42 : decode cX10_seats 42 = .ok (.ireturn, 1) := by decide +kernel
theorem dX10_findUnits_0 : decode cX10_findUnits 0 = .ok (.aload_n 0, 1) := by decide +kernel
theorem dX10_findUnits_1 : decode cX10_findUnits 1 = .ok (.iconst 0, 1) := by decide +kernel
theorem dX10_findUnits_2 : decode cX10_findUnits 2 = .ok (.putfield 185, 3) := by decide +kernel
theorem dX10_findUnits_5 : decode cX10_findUnits 5 = .ok (.iconst 0, 1) := by decide +kernel
theorem dX10_findUnits_6 : decode cX10_findUnits 6 = .ok (.istore_n 2, 1) := by decide +kernel
theorem dX10_findUnits_7 : decode cX10_findUnits 7 = .ok (.iload_n 2, 1) := by decide +kernel
theorem dX10_findUnits_8 : decode cX10_findUnits 8 = .ok (.aload_n 0, 1) := by decide +kernel
theorem dX10_findUnits_9 : decode cX10_findUnits 9 = .ok (.getfield 136, 3) := by decide +kernel
theorem dX10_findUnits_12 : decode cX10_findUnits 12 = .ok (.if_icmp .ge 144, 3) := by decide +kernel
theorem dX10_findUnits_15 : decode cX10_findUnits 15 = .ok (.aload_n 0, 1) := by decide +kernel
theorem dX10_findUnits_16 : decode cX10_findUnits 16 = .ok (.getfield 44, 3) := by decide +kernel
theorem dX10_findUnits_19 : decode cX10_findUnits 19 = .ok (.iload_n 2, 1) := by decide +kernel
theorem dX10_findUnits_20 : decode cX10_findUnits 20 = .ok (.iconst (-1), 1) := by decide +kernel
theorem dX10_findUnits_21 : decode cX10_findUnits 21 = .ok (.iastore, 1) := by decide +kernel
theorem dX10_findUnits_22 : decode cX10_findUnits 22 = .ok (.aload_n 0, 1) := by decide +kernel
theorem dX10_findUnits_23 : decode cX10_findUnits 23 = .ok (.iload_n 2, 1) := by decide +kernel
theorem dX10_findUnits_24 : decode cX10_findUnits 24 = .ok (.iload_n 1, 1) := by decide +kernel
theorem dX10_findUnits_25 : decode cX10_findUnits 25 = .ok (.invokevirtual 174, 3) := by decide +kernel
theorem dX10_findUnits_28 : decode cX10_findUnits 28 = .ok (.ifCond .eq 122, 3) := by decide +kernel
theorem dX10_findUnits_31 : decode cX10_findUnits 31 = .ok (.iconst 0, 1) := by decide +kernel
theorem dX10_findUnits_32 : decode cX10_findUnits 32 = .ok (.istore_n 3, 1) := by decide +kernel
theorem dX10_findUnits_33 : decode cX10_findUnits 33 = .ok (.iload_n 3, 1) := by decide +kernel
theorem dX10_findUnits_34 : decode cX10_findUnits 34 = .ok (.iload_n 2, 1) := by decide +kernel
theorem dX10_findUnits_35 : decode cX10_findUnits 35 = .ok (.if_icmp .ge 55, 3) := by decide +kernel
theorem dX10_findUnits_38 : decode cX10_findUnits 38 = .ok (.aload_n 0, 1) := by decide +kernel
theorem dX10_findUnits_39 : decode cX10_findUnits 39 = .ok (.getfield 28, 3) := by decide +kernel
theorem dX10_findUnits_42 : decode cX10_findUnits 42 = .ok (.iload_n 2, 1) := by decide +kernel
theorem dX10_findUnits_43 : decode cX10_findUnits 43 = .ok (.iaload, 1) := by decide +kernel
theorem dX10_findUnits_44 : decode cX10_findUnits 44 = .ok (.iconst (-1), 1) := by decide +kernel
theorem dX10_findUnits_45 : decode cX10_findUnits 45 = .ok (.if_icmp .eq 45, 3) := by decide +kernel
theorem dX10_findUnits_48 : decode cX10_findUnits 48 = .ok (.aload_n 0, 1) := by decide +kernel
theorem dX10_findUnits_49 : decode cX10_findUnits 49 = .ok (.iload_n 3, 1) := by decide +kernel
theorem dX10_findUnits_50 : decode cX10_findUnits 50 = .ok (.iload_n 1, 1) := by decide +kernel
theorem dX10_findUnits_51 : decode cX10_findUnits 51 = .ok (.invokevirtual 174, 3) := by decide +kernel
theorem dX10_findUnits_54 : decode cX10_findUnits 54 = .ok (.ifCond .eq 30, 3) := by decide +kernel
theorem dX10_findUnits_57 : decode cX10_findUnits 57 = .ok (.aload_n 0, 1) := by decide +kernel
theorem dX10_findUnits_58 : decode cX10_findUnits 58 = .ok (.getfield 28, 3) := by decide +kernel
theorem dX10_findUnits_61 : decode cX10_findUnits 61 = .ok (.iload_n 3, 1) := by decide +kernel
theorem dX10_findUnits_62 : decode cX10_findUnits 62 = .ok (.iaload, 1) := by decide +kernel
theorem dX10_findUnits_63 : decode cX10_findUnits 63 = .ok (.aload_n 0, 1) := by decide +kernel
theorem dX10_findUnits_64 : decode cX10_findUnits 64 = .ok (.getfield 28, 3) := by decide +kernel
theorem dX10_findUnits_67 : decode cX10_findUnits 67 = .ok (.iload_n 2, 1) := by decide +kernel
theorem dX10_findUnits_68 : decode cX10_findUnits 68 = .ok (.iaload, 1) := by decide +kernel
theorem dX10_findUnits_69 : decode cX10_findUnits 69 = .ok (.if_icmp .ne 15, 3) := by decide +kernel
theorem dX10_findUnits_72 : decode cX10_findUnits 72 = .ok (.aload_n 0, 1) := by decide +kernel
theorem dX10_findUnits_73 : decode cX10_findUnits 73 = .ok (.getfield 44, 3) := by decide +kernel
theorem dX10_findUnits_76 : decode cX10_findUnits 76 = .ok (.iload_n 2, 1) := by decide +kernel
theorem dX10_findUnits_77 : decode cX10_findUnits 77 = .ok (.aload_n 0, 1) := by decide +kernel
theorem dX10_findUnits_78 : decode cX10_findUnits 78 = .ok (.getfield 44, 3) := by decide +kernel
theorem dX10_findUnits_81 : decode cX10_findUnits 81 = .ok (.iload_n 3, 1) := by decide +kernel
theorem dX10_findUnits_82 : decode cX10_findUnits 82 = .ok (.iaload, 1) := by decide +kernel
theorem dX10_findUnits_83 : decode cX10_findUnits 83 = .ok (.iastore, 1) := by decide +kernel
theorem dX10_findUnits_84 : decode cX10_findUnits 84 = .ok (.iinc 3 1, 3) := by decide +kernel
theorem dX10_findUnits_87 : decode cX10_findUnits 87 = .ok (.goto (-54), 3) := by decide +kernel
theorem dX10_findUnits_90 : decode cX10_findUnits 90 = .ok (.aload_n 0, 1) := by decide +kernel
theorem dX10_findUnits_91 : decode cX10_findUnits 91 = .ok (.getfield 44, 3) := by decide +kernel
theorem dX10_findUnits_94 : decode cX10_findUnits 94 = .ok (.iload_n 2, 1) := by decide +kernel
theorem dX10_findUnits_95 : decode cX10_findUnits 95 = .ok (.iaload, 1) := by decide +kernel
theorem dX10_findUnits_96 : decode cX10_findUnits 96 = .ok (.iconst (-1), 1) := by decide +kernel
theorem dX10_findUnits_97 : decode cX10_findUnits 97 = .ok (.if_icmp .ne 33, 3) := by decide +kernel
theorem dX10_findUnits_100 : decode cX10_findUnits 100 = .ok (.aload_n 0, 1) := by decide +kernel
theorem dX10_findUnits_101 : decode cX10_findUnits 101 = .ok (.getfield 44, 3) := by decide +kernel
theorem dX10_findUnits_104 : decode cX10_findUnits 104 = .ok (.iload_n 2, 1) := by decide +kernel
theorem dX10_findUnits_105 : decode cX10_findUnits 105 = .ok (.aload_n 0, 1) := by decide +kernel
theorem dX10_findUnits_106 : decode cX10_findUnits 106 = .ok (.getfield 185, 3) := by decide +kernel
theorem dX10_findUnits_109 : decode cX10_findUnits 109 = .ok (.iastore, 1) := by decide +kernel
theorem dX10_findUnits_110 : decode cX10_findUnits 110 = .ok (.aload_n 0, 1) := by decide +kernel
theorem dX10_findUnits_111 : decode cX10_findUnits 111 = .ok (.getfield 47, 3) := by decide +kernel
theorem dX10_findUnits_114 : decode cX10_findUnits 114 = .ok (.aload_n 0, 1) := by decide +kernel
theorem dX10_findUnits_115 : decode cX10_findUnits 115 = .ok (.getfield 185, 3) := by decide +kernel
theorem dX10_findUnits_118 : decode cX10_findUnits 118 = .ok (.iconst 0, 1) := by decide +kernel
theorem dX10_findUnits_119 : decode cX10_findUnits 119 = .ok (.iastore, 1) := by decide +kernel
theorem dX10_findUnits_120 : decode cX10_findUnits 120 = .ok (.aload_n 0, 1) := by decide +kernel
theorem dX10_findUnits_121 : decode cX10_findUnits 121 = .ok (.dup, 1) := by decide +kernel
theorem dX10_findUnits_122 : decode cX10_findUnits 122 = .ok (.getfield 185, 3) := by decide +kernel
theorem dX10_findUnits_125 : decode cX10_findUnits 125 = .ok (.iconst 1, 1) := by decide +kernel
theorem dX10_findUnits_126 : decode cX10_findUnits 126 = .ok (.iadd, 1) := by decide +kernel
theorem dX10_findUnits_127 : decode cX10_findUnits 127 = .ok (.putfield 185, 3) := by decide +kernel
theorem dX10_findUnits_130 : decode cX10_findUnits 130 = .ok (.aload_n 0, 1) := by decide +kernel
theorem dX10_findUnits_131 : decode cX10_findUnits 131 = .ok (.getfield 47, 3) := by decide +kernel
theorem dX10_findUnits_134 : decode cX10_findUnits 134 = .ok (.aload_n 0, 1) := by decide +kernel
theorem dX10_findUnits_135 : decode cX10_findUnits 135 = .ok (.getfield 44, 3) := by decide +kernel
theorem dX10_findUnits_138 : decode cX10_findUnits 138 = .ok (.iload_n 2, 1) := by decide +kernel
theorem dX10_findUnits_139 : decode cX10_findUnits 139 = .ok (.iaload, 1) := by decide +kernel
theorem dX10_findUnits_140 : decode cX10_findUnits 140 = .ok (.dup2, 1) := by decide +kernel
theorem dX10_findUnits_141 : decode cX10_findUnits 141 = .ok (.iaload, 1) := by decide +kernel
theorem dX10_findUnits_142 : decode cX10_findUnits 142 = .ok (.aload_n 0, 1) := by decide +kernel
theorem dX10_findUnits_143 : decode cX10_findUnits 143 = .ok (.getfield 16, 3) := by decide +kernel
theorem dX10_findUnits_146 : decode cX10_findUnits 146 = .ok (.iload_n 2, 1) := by decide +kernel
theorem dX10_findUnits_147 : decode cX10_findUnits 147 = .ok (.iaload, 1) := by decide +kernel
theorem dX10_findUnits_148 : decode cX10_findUnits 148 = .ok (.iadd, 1) := by decide +kernel
theorem dX10_findUnits_149 : decode cX10_findUnits 149 = .ok (.iastore, 1) := by decide +kernel
theorem dX10_findUnits_150 : decode cX10_findUnits 150 = .ok (.iinc 2 1, 3) := by decide +kernel
theorem dX10_findUnits_153 : decode cX10_findUnits 153 = .ok (.goto (-146), 3) := by decide +kernel
theorem dX10_findUnits_156 : decode cX10_findUnits 156 = .ok (.return_, 1) := by decide +kernel
theorem dX10_findSittings_0 : decode cX10_findSittings 0 = .ok (.aload_n 0, 1) := by decide +kernel
theorem dX10_findSittings_1 : decode cX10_findSittings 1 = .ok (.iload_n 1, 1) := by decide +kernel
theorem dX10_findSittings_2 : decode cX10_findSittings 2 = .ok (.invokevirtual 188, 3) := by decide +kernel
theorem dX10_findSittings_5 : decode cX10_findSittings 5 = .ok (.iconst 0, 1) := by decide +kernel
theorem dX10_findSittings_6 : decode cX10_findSittings 6 = .ok (.istore_n 2, 1) := by decide +kernel
theorem dX10_findSittings_7 : decode cX10_findSittings 7 = .ok (.iconst 0, 1) := by decide +kernel
theorem dX10_findSittings_8 : decode cX10_findSittings 8 = .ok (.istore_n 3, 1) := by decide +kernel
theorem dX10_findSittings_9 : decode cX10_findSittings 9 = .ok (.iload_n 3, 1) := by decide +kernel
theorem dX10_findSittings_10 : decode cX10_findSittings 10 = .ok (.aload_n 0, 1) := by decide +kernel
theorem dX10_findSittings_11 : decode cX10_findSittings 11 = .ok (.getfield 185, 3) := by decide +kernel
theorem dX10_findSittings_14 : decode cX10_findSittings 14 = .ok (.if_icmp .ge 18, 3) := by decide +kernel
theorem dX10_findSittings_17 : decode cX10_findSittings 17 = .ok (.iload_n 2, 1) := by decide +kernel
theorem dX10_findSittings_18 : decode cX10_findSittings 18 = .ok (.aload_n 0, 1) := by decide +kernel
theorem dX10_findSittings_19 : decode cX10_findSittings 19 = .ok (.getfield 47, 3) := by decide +kernel
theorem dX10_findSittings_22 : decode cX10_findSittings 22 = .ok (.iload_n 3, 1) := by decide +kernel
theorem dX10_findSittings_23 : decode cX10_findSittings 23 = .ok (.iaload, 1) := by decide +kernel
theorem dX10_findSittings_24 : decode cX10_findSittings 24 = .ok (.iadd, 1) := by decide +kernel
theorem dX10_findSittings_25 : decode cX10_findSittings 25 = .ok (.istore_n 2, 1) := by decide +kernel
theorem dX10_findSittings_26 : decode cX10_findSittings 26 = .ok (.iinc 3 1, 3) := by decide +kernel
theorem dX10_findSittings_29 : decode cX10_findSittings 29 = .ok (.goto (-20), 3) := by decide +kernel
theorem dX10_findSittings_32 : decode cX10_findSittings 32 = .ok (.iconst 0, 1) := by decide +kernel
theorem dX10_findSittings_33 : decode cX10_findSittings 33 = .ok (.istore_n 3, 1) := by decide +kernel
theorem dX10_findSittings_34 : decode cX10_findSittings 34 = .ok (.iload_n 3, 1) := by decide +kernel
theorem dX10_findSittings_35 : decode cX10_findSittings 35 = .ok (.sipush 200, 3) := by decide +kernel
theorem dX10_findSittings_38 : decode cX10_findSittings 38 = .ok (.if_icmp .ge 33, 3) := by decide +kernel
theorem dX10_findSittings_41 : decode cX10_findSittings 41 = .ok (.aload_n 0, 1) := by decide +kernel
theorem dX10_findSittings_42 : decode cX10_findSittings 42 = .ok (.getfield 50, 3) := by decide +kernel
theorem dX10_findSittings_45 : decode cX10_findSittings 45 = .ok (.sipush 200, 3) := by decide +kernel
theorem dX10_findSittings_48 : decode cX10_findSittings 48 = .ok (.aload_n 0, 1) := by decide +kernel
theorem dX10_findSittings_49 : decode cX10_findSittings 49 = .ok (.getfield 185, 3) := by decide +kernel
theorem dX10_findSittings_52 : decode cX10_findSittings 52 = .ok (.imul, 1) := by decide +kernel
theorem dX10_findSittings_53 : decode cX10_findSittings 53 = .ok (.iload_n 3, 1) := by decide +kernel
theorem dX10_findSittings_54 : decode cX10_findSittings 54 = .ok (.iadd, 1) := by decide +kernel
theorem dX10_findSittings_55 : decode cX10_findSittings 55 = .ok (.iload_n 3, 1) := by decide +kernel
theorem dX10_findSittings_56 : decode cX10_findSittings 56 = .ok (.ifCond .ne 7, 3) := by decide +kernel
theorem dX10_findSittings_59 : decode cX10_findSittings 59 = .ok (.iconst 1, 1) := by decide +kernel
theorem dX10_findSittings_60 : decode cX10_findSittings 60 = .ok (.goto 4, 3) := by decide +kernel
theorem dX10_findSittings_63 : decode cX10_findSittings 63 = .ok (.iconst 0, 1) := by decide +kernel
theorem dX10_findSittings_64 : decode cX10_findSittings 64 = .ok (.bastore, 1) := by decide +kernel
theorem dX10_findSittings_65 : decode cX10_findSittings 65 = .ok (.iinc 3 1, 3) := by decide +kernel
theorem dX10_findSittings_68 : decode cX10_findSittings 68 = .ok (.goto (-34), 3) := by decide +kernel
theorem dX10_findSittings_71 : decode cX10_findSittings 71 = .ok (.aload_n 0, 1) := by decide +kernel
theorem dX10_findSittings_72 : decode cX10_findSittings 72 = .ok (.getfield 185, 3) := by decide +kernel
theorem dX10_findSittings_75 : decode cX10_findSittings 75 = .ok (.iconst 1, 1) := by decide +kernel
theorem dX10_findSittings_76 : decode cX10_findSittings 76 = .ok (.isub, 1) := by decide +kernel
theorem dX10_findSittings_77 : decode cX10_findSittings 77 = .ok (.istore_n 3, 1) := by decide +kernel
theorem dX10_findSittings_78 : decode cX10_findSittings 78 = .ok (.iload_n 3, 1) := by decide +kernel
theorem dX10_findSittings_79 : decode cX10_findSittings 79 = .ok (.ifCond .lt 98, 3) := by decide +kernel
theorem dX10_findSittings_82 : decode cX10_findSittings 82 = .ok (.iconst 0, 1) := by decide +kernel
theorem dX10_findSittings_83 : decode cX10_findSittings 83 = .ok (.istore 4, 2) := by decide +kernel
theorem dX10_findSittings_85 : decode cX10_findSittings 85 = .ok (.iload 4, 2) := by decide +kernel
theorem dX10_findSittings_87 : decode cX10_findSittings 87 = .ok (.sipush 200, 3) := by decide +kernel
theorem dX10_findSittings_90 : decode cX10_findSittings 90 = .ok (.if_icmp .ge 81, 3) := by decide +kernel
theorem dX10_findSittings_93 : decode cX10_findSittings 93 = .ok (.aload_n 0, 1) := by decide +kernel
theorem dX10_findSittings_94 : decode cX10_findSittings 94 = .ok (.getfield 50, 3) := by decide +kernel
theorem dX10_findSittings_97 : decode cX10_findSittings 97 = .ok (.sipush 200, 3) := by decide +kernel
theorem dX10_findSittings_100 : decode cX10_findSittings 100 = .ok (.iload_n 3, 1) := by decide +kernel
theorem dX10_findSittings_101 : decode cX10_findSittings 101 = .ok (.imul, 1) := by decide +kernel
theorem dX10_findSittings_102 : decode cX10_findSittings 102 = .ok (.iload 4, 2) := by decide +kernel
theorem dX10_findSittings_104 : decode cX10_findSittings 104 = .ok (.iadd, 1) := by decide +kernel
theorem dX10_findSittings_105 : decode cX10_findSittings 105 = .ok (.aload_n 0, 1) := by decide +kernel
theorem dX10_findSittings_106 : decode cX10_findSittings 106 = .ok (.getfield 50, 3) := by decide +kernel
theorem dX10_findSittings_109 : decode cX10_findSittings 109 = .ok (.sipush 200, 3) := by decide +kernel
theorem dX10_findSittings_112 : decode cX10_findSittings 112 = .ok (.iload_n 3, 1) := by decide +kernel
theorem dX10_findSittings_113 : decode cX10_findSittings 113 = .ok (.iconst 1, 1) := by decide +kernel
theorem dX10_findSittings_114 : decode cX10_findSittings 114 = .ok (.iadd, 1) := by decide +kernel
theorem dX10_findSittings_115 : decode cX10_findSittings 115 = .ok (.imul, 1) := by decide +kernel
theorem dX10_findSittings_116 : decode cX10_findSittings 116 = .ok (.iload 4, 2) := by decide +kernel
theorem dX10_findSittings_118 : decode cX10_findSittings 118 = .ok (.iadd, 1) := by decide +kernel
theorem dX10_findSittings_119 : decode cX10_findSittings 119 = .ok (.baload, 1) := by decide +kernel
theorem dX10_findSittings_120 : decode cX10_findSittings 120 = .ok (.ifCond .ne 39, 3) := by decide +kernel
theorem dX10_findSittings_123 : decode cX10_findSittings 123 = .ok (.iload 4, 2) := by decide +kernel
theorem dX10_findSittings_125 : decode cX10_findSittings 125 = .ok (.aload_n 0, 1) := by decide +kernel
theorem dX10_findSittings_126 : decode cX10_findSittings 126 = .ok (.getfield 47, 3) := by decide +kernel
theorem dX10_findSittings_129 : decode cX10_findSittings 129 = .ok (.iload_n 3, 1) := by decide +kernel
theorem dX10_findSittings_130 : decode cX10_findSittings 130 = .ok (.iaload, 1) := by decide +kernel
theorem dX10_findSittings_131 : decode cX10_findSittings 131 = .ok (.if_icmp .lt 32, 3) := by decide +kernel
theorem dX10_findSittings_134 : decode cX10_findSittings 134 = .ok (.aload_n 0, 1) := by decide +kernel
theorem dX10_findSittings_135 : decode cX10_findSittings 135 = .ok (.getfield 50, 3) := by decide +kernel
theorem dX10_findSittings_138 : decode cX10_findSittings 138 = .ok (.sipush 200, 3) := by decide +kernel
theorem dX10_findSittings_141 : decode cX10_findSittings 141 = .ok (.iload_n 3, 1) := by decide +kernel
theorem dX10_findSittings_142 : decode cX10_findSittings 142 = .ok (.iconst 1, 1) := by decide +kernel
theorem dX10_findSittings_143 : decode cX10_findSittings 143 = .ok (.iadd, 1) := by decide +kernel
theorem dX10_findSittings_144 : decode cX10_findSittings 144 = .ok (.imul, 1) := by decide +kernel
theorem dX10_findSittings_145 : decode cX10_findSittings 145 = .ok (.iload 4, 2) := by decide +kernel
theorem dX10_findSittings_147 : decode cX10_findSittings 147 = .ok (.iadd, 1) := by decide +kernel
theorem dX10_findSittings_148 : decode cX10_findSittings 148 = .ok (.aload_n 0, 1) := by decide +kernel
theorem dX10_findSittings_149 : decode cX10_findSittings 149 = .ok (.getfield 47, 3) := by decide +kernel
theorem dX10_findSittings_152 : decode cX10_findSittings 152 = .ok (.iload_n 3, 1) := by decide +kernel
theorem dX10_findSittings_153 : decode cX10_findSittings 153 = .ok (.iaload, 1) := by decide +kernel
theorem dX10_findSittings_154 : decode cX10_findSittings 154 = .ok (.isub, 1) := by decide +kernel
theorem dX10_findSittings_155 : decode cX10_findSittings 155 = .ok (.baload, 1) := by decide +kernel
theorem dX10_findSittings_156 : decode cX10_findSittings 156 = .ok (.ifCond .eq 7, 3) := by decide +kernel
theorem dX10_findSittings_159 : decode cX10_findSittings 159 = .ok (.iconst 1, 1) := by decide +kernel
theorem dX10_findSittings_160 : decode cX10_findSittings 160 = .ok (.goto 4, 3) := by decide +kernel
theorem dX10_findSittings_163 : decode cX10_findSittings 163 = .ok (.iconst 0, 1) := by decide +kernel
theorem dX10_findSittings_164 : decode cX10_findSittings 164 = .ok (.bastore, 1) := by decide +kernel
theorem dX10_findSittings_165 : decode cX10_findSittings 165 = .ok (.iinc 4 1, 3) := by decide +kernel
theorem dX10_findSittings_168 : decode cX10_findSittings 168 = .ok (.goto (-83), 3) := by decide +kernel
theorem dX10_findSittings_171 : decode cX10_findSittings 171 = .ok (.iinc 3 (-1), 3) := by decide +kernel
theorem dX10_findSittings_174 : decode cX10_findSittings 174 = .ok (.goto (-96), 3) := by decide +kernel
theorem dX10_findSittings_177 : decode cX10_findSittings 177 = .ok (.iconst (-1), 1) := by decide +kernel
theorem dX10_findSittings_178 : decode cX10_findSittings 178 = .ok (.istore_n 3, 1) := by decide +kernel
theorem dX10_findSittings_179 : decode cX10_findSittings 179 = .ok (.iconst 0, 1) := by decide +kernel
theorem dX10_findSittings_180 : decode cX10_findSittings 180 = .ok (.istore 4, 2) := by decide +kernel
theorem dX10_findSittings_182 : decode cX10_findSittings 182 = .ok (.iload 4, 2) := by decide +kernel
theorem dX10_findSittings_184 : decode cX10_findSittings 184 = .ok (.iload_n 2, 1) := by decide +kernel
theorem dX10_findSittings_185 : decode cX10_findSittings 185 = .ok (.if_icmp .gt 82, 3) := by decide +kernel
theorem dX10_findSittings_188 : decode cX10_findSittings 188 = .ok (.iconst 2, 1) := by decide +kernel
theorem dX10_findSittings_189 : decode cX10_findSittings 189 = .ok (.iload 4, 2) := by decide +kernel
theorem dX10_findSittings_191 : decode cX10_findSittings 191 = .ok (.imul, 1) := by decide +kernel
theorem dX10_findSittings_192 : decode cX10_findSittings 192 = .ok (.iload_n 2, 1) := by decide +kernel
theorem dX10_findSittings_193 : decode cX10_findSittings 193 = .ok (.if_icmp .le 12, 3) := by decide +kernel
theorem dX10_findSittings_196 : decode cX10_findSittings 196 = .ok (.iconst 2, 1) := by decide +kernel
theorem dX10_findSittings_197 : decode cX10_findSittings 197 = .ok (.iload 4, 2) := by decide +kernel
theorem dX10_findSittings_199 : decode cX10_findSittings 199 = .ok (.imul, 1) := by decide +kernel
theorem dX10_findSittings_200 : decode cX10_findSittings 200 = .ok (.iload_n 2, 1) := by decide +kernel
theorem dX10_findSittings_201 : decode cX10_findSittings 201 = .ok (.isub, 1) := by decide +kernel
theorem dX10_findSittings_202 : decode cX10_findSittings 202 = .ok (.goto 9, 3) := by decide +kernel
theorem dX10_findSittings_205 : decode cX10_findSittings 205 = .ok (.iload_n 2, 1) := by decide +kernel
theorem dX10_findSittings_206 : decode cX10_findSittings 206 = .ok (.iconst 2, 1) := by decide +kernel
theorem dX10_findSittings_207 : decode cX10_findSittings 207 = .ok (.iload 4, 2) := by decide +kernel
theorem dX10_findSittings_209 : decode cX10_findSittings 209 = .ok (.imul, 1) := by decide +kernel
theorem dX10_findSittings_210 : decode cX10_findSittings 210 = .ok (.isub, 1) := by decide +kernel
theorem dX10_findSittings_211 : decode cX10_findSittings 211 = .ok (.istore 5, 2) := by decide +kernel
theorem dX10_findSittings_213 : decode cX10_findSittings 213 = .ok (.aload_n 0, 1) := by decide +kernel
theorem dX10_findSittings_214 : decode cX10_findSittings 214 = .ok (.getfield 50, 3) := by decide +kernel
theorem dX10_findSittings_217 : decode cX10_findSittings 217 = .ok (.iload 4, 2) := by decide +kernel
theorem dX10_findSittings_219 : decode cX10_findSittings 219 = .ok (.baload, 1) := by decide +kernel
theorem dX10_findSittings_220 : decode cX10_findSittings 220 = .ok (.ifCond .eq 41, 3) := by decide +kernel
theorem dX10_findSittings_223 : decode cX10_findSittings 223 = .ok (.iload 4, 2) := by decide +kernel
theorem dX10_findSittings_225 : decode cX10_findSittings 225 = .ok (.aload_n 0, 1) := by decide +kernel
theorem dX10_findSittings_226 : decode cX10_findSittings 226 = .ok (.getfield 41, 3) := by decide +kernel
theorem dX10_findSittings_229 : decode cX10_findSittings 229 = .ok (.iconst 0, 1) := by decide +kernel
theorem dX10_findSittings_230 : decode cX10_findSittings 230 = .ok (.iaload, 1) := by decide +kernel
theorem dX10_findSittings_231 : decode cX10_findSittings 231 = .ok (.if_icmp .gt 30, 3) := by decide +kernel
theorem dX10_findSittings_234 : decode cX10_findSittings 234 = .ok (.iload_n 2, 1) := by decide +kernel
theorem dX10_findSittings_235 : decode cX10_findSittings 235 = .ok (.iload 4, 2) := by decide +kernel
theorem dX10_findSittings_237 : decode cX10_findSittings 237 = .ok (.isub, 1) := by decide +kernel
theorem dX10_findSittings_238 : decode cX10_findSittings 238 = .ok (.aload_n 0, 1) := by decide +kernel
theorem dX10_findSittings_239 : decode cX10_findSittings 239 = .ok (.getfield 41, 3) := by decide +kernel
theorem dX10_findSittings_242 : decode cX10_findSittings 242 = .ok (.iconst 1, 1) := by decide +kernel
theorem dX10_findSittings_243 : decode cX10_findSittings 243 = .ok (.iaload, 1) := by decide +kernel
theorem dX10_findSittings_244 : decode cX10_findSittings 244 = .ok (.if_icmp .gt 17, 3) := by decide +kernel
theorem dX10_findSittings_247 : decode cX10_findSittings 247 = .ok (.iload_n 3, 1) := by decide +kernel
theorem dX10_findSittings_248 : decode cX10_findSittings 248 = .ok (.iconst (-1), 1) := by decide +kernel
theorem dX10_findSittings_249 : decode cX10_findSittings 249 = .ok (.if_icmp .eq 9, 3) := by decide +kernel
theorem dX10_findSittings_252 : decode cX10_findSittings 252 = .ok (.iload 5, 2) := by decide +kernel
theorem dX10_findSittings_254 : decode cX10_findSittings 254 = .ok (.iload_n 3, 1) := by decide +kernel
theorem dX10_findSittings_255 : decode cX10_findSittings 255 = .ok (.if_icmp .ge 6, 3) := by decide +kernel
theorem dX10_findSittings_258 : decode cX10_findSittings 258 = .ok (.iload 5, 2) := by decide +kernel
theorem dX10_findSittings_260 : decode cX10_findSittings 260 = .ok (.istore_n 3, 1) := by decide +kernel
theorem dX10_findSittings_261 : decode cX10_findSittings 261 = .ok (.iinc 4 1, 3) := by decide +kernel
theorem dX10_findSittings_264 : decode cX10_findSittings 264 = .ok (.goto (-82), 3) := by decide +kernel
theorem dX10_findSittings_267 : decode cX10_findSittings 267 = .ok (.iload_n 3, 1) := by decide +kernel
theorem dX10_findSittings_268 : decode cX10_findSittings 268 = .ok (.iconst (-1), 1) := by decide +kernel
theorem dX10_findSittings_269 : decode cX10_findSittings 269 = .ok (.if_icmp .ne 5, 3) := by decide +kernel
theorem dX10_findSittings_272 : decode cX10_findSittings 272 = .ok (.iconst (-1), 1) := by decide +kernel
theorem dX10_findSittings_273 : decode cX10_findSittings 273 = .ok (.ireturn, 1) := by decide +kernel
theorem dX10_findSittings_274 : decode cX10_findSittings 274 = .ok (.iload_n 2, 1) := by decide +kernel
theorem dX10_findSittings_275 : decode cX10_findSittings 275 = .ok (.iload_n 3, 1) := by decide +kernel
theorem dX10_findSittings_276 : decode cX10_findSittings 276 = .ok (.isub, 1) := by decide +kernel
theorem dX10_findSittings_277 : decode cX10_findSittings 277 = .ok (.iconst 2, 1) := by decide +kernel
theorem dX10_findSittings_278 : decode cX10_findSittings 278 = .ok (.idiv, 1) := by decide +kernel
theorem dX10_findSittings_279 : decode cX10_findSittings 279 = .ok (.istore 4, 2) := by decide +kernel
theorem dX10_findSittings_281 : decode cX10_findSittings 281 = .ok (.iload_n 2, 1) := by decide +kernel
theorem dX10_findSittings_282 : decode cX10_findSittings 282 = .ok (.iload_n 3, 1) := by decide +kernel
theorem dX10_findSittings_283 : decode cX10_findSittings 283 = .ok (.iadd, 1) := by decide +kernel
theorem dX10_findSittings_284 : decode cX10_findSittings 284 = .ok (.iconst 2, 1) := by decide +kernel
theorem dX10_findSittings_285 : decode cX10_findSittings 285 = .ok (.idiv, 1) := by decide +kernel
theorem dX10_findSittings_286 : decode cX10_findSittings 286 = .ok (.istore 5, 2) := by decide +kernel
theorem dX10_findSittings_288 : decode cX10_findSittings 288 = .ok (.iload 4, 2) := by decide +kernel
theorem dX10_findSittings_290 : decode cX10_findSittings 290 = .ok (.aload_n 0, 1) := by decide +kernel
theorem dX10_findSittings_291 : decode cX10_findSittings 291 = .ok (.getfield 41, 3) := by decide +kernel
theorem dX10_findSittings_294 : decode cX10_findSittings 294 = .ok (.iconst 0, 1) := by decide +kernel
theorem dX10_findSittings_295 : decode cX10_findSittings 295 = .ok (.iaload, 1) := by decide +kernel
theorem dX10_findSittings_296 : decode cX10_findSittings 296 = .ok (.if_icmp .gt 30, 3) := by decide +kernel
