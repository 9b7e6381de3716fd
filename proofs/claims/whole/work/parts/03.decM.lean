theorem dX8_init_0 : decode cX8_init 0 = .ok (.aload_n 0, 1) := by decide +kernel
theorem dX8_init_1 : decode cX8_init 1 = .ok (.invokespecial 1, 3) := by decide +kernel
theorem dX8_init_4 : decode cX8_init 4 = .ok (.aload_n 0, 1) := by decide +kernel
theorem dX8_init_5 : decode cX8_init 5 = .ok (.bipush 6, 2) := by decide +kernel
theorem dX8_init_7 : decode cX8_init 7 = .ok (.newarray .int, 2) := by decide +kernel
theorem dX8_init_9 : decode cX8_init 9 = .ok (.putfield 7, 3) := by decide +kernel
theorem dX8_init_12 : decode cX8_init 12 = .ok (.aload_n 0, 1) := by decide +kernel
theorem dX8_init_13 : decode cX8_init 13 = .ok (.bipush 6, 2) := by decide +kernel
theorem dX8_init_15 : decode cX8_init 15 = .ok (.newarray .int, 2) := by decide +kernel
theorem dX8_init_17 : decode cX8_init 17 = .ok (.putfield 13, 3) := by decide +kernel
theorem dX8_init_20 : decode cX8_init 20 = .ok (.aload_n 0, 1) := by decide +kernel
theorem dX8_init_21 : decode cX8_init 21 = .ok (.bipush 6, 2) := by decide +kernel
theorem dX8_init_23 : decode cX8_init 23 = .ok (.newarray .int, 2) := by decide +kernel
theorem dX8_init_25 : decode cX8_init 25 = .ok (.putfield 16, 3) := by decide +kernel
theorem dX8_init_28 : decode cX8_init 28 = .ok (.aload_n 0, 1) := by decide +kernel
theorem dX8_init_29 : decode cX8_init 29 = .ok (.bipush 6, 2) := by decide +kernel
theorem dX8_init_31 : decode cX8_init 31 = .ok (.newarray .int, 2) := by decide +kernel
theorem dX8_init_33 : decode cX8_init 33 = .ok (.putfield 19, 3) := by decide +kernel
theorem dX8_init_36 : decode cX8_init 36 = .ok (.aload_n 0, 1) := by decide +kernel
theorem dX8_init_37 : decode cX8_init 37 = .ok (.bipush 6, 2) := by decide +kernel
theorem dX8_init_39 : decode cX8_init 39 = .ok (.newarray .boolean, 2) := by decide +kernel
theorem dX8_init_41 : decode cX8_init 41 = .ok (.putfield 22, 3) := by decide +kernel
theorem dX8_init_44 : decode cX8_init 44 = .ok (.aload_n 0, 1) := by decide +kernel
theorem dX8_init_45 : decode cX8_init 45 = .ok (.bipush 6, 2) := by decide +kernel
theorem dX8_init_47 : decode cX8_init 47 = .ok (.newarray .int, 2) := by decide +kernel
theorem dX8_init_49 : decode cX8_init 49 = .ok (.putfield 26, 3) := by decide +kernel
theorem dX8_init_52 : decode cX8_init 52 = .ok (.aload_n 0, 1) := by decide +kernel
theorem dX8_init_53 : decode cX8_init 53 = .ok (.bipush 6, 2) := by decide +kernel
theorem dX8_init_55 : decode cX8_init 55 = .ok (.newarray .int, 2) := by decide +kernel
theorem dX8_init_57 : decode cX8_init 57 = .ok (.putfield 29, 3) := by decide +kernel
theorem dX8_init_60 : decode cX8_init 60 = .ok (.aload_n 0, 1) := by decide +kernel
theorem dX8_init_61 : decode cX8_init 61 = .ok (.sipush 600, 3) := by decide +kernel
theorem dX8_init_64 : decode cX8_init 64 = .ok (.newarray .int, 2) := by decide +kernel
theorem dX8_init_66 : decode cX8_init 66 = .ok (.putfield 32, 3) := by decide +kernel
theorem dX8_init_69 : decode cX8_init 69 = .ok (.aload_n 0, 1) := by decide +kernel
theorem dX8_init_70 : decode cX8_init 70 = .ok (.bipush 100, 2) := by decide +kernel
theorem dX8_init_72 : decode cX8_init 72 = .ok (.newarray .int, 2) := by decide +kernel
theorem dX8_init_74 : decode cX8_init 74 = .ok (.putfield 35, 3) := by decide +kernel
theorem dX8_init_77 : decode cX8_init 77 = .ok (.aload_n 0, 1) := by decide +kernel
theorem dX8_init_78 : decode cX8_init 78 = .ok (.bipush 40, 2) := by decide +kernel
theorem dX8_init_80 : decode cX8_init 80 = .ok (.newarray .int, 2) := by decide +kernel
theorem dX8_init_82 : decode cX8_init 82 = .ok (.putfield 38, 3) := by decide +kernel
theorem dX8_init_85 : decode cX8_init 85 = .ok (.aload_n 0, 1) := by decide +kernel
theorem dX8_init_86 : decode cX8_init 86 = .ok (.bipush 40, 2) := by decide +kernel
theorem dX8_init_88 : decode cX8_init 88 = .ok (.newarray .int, 2) := by decide +kernel
theorem dX8_init_90 : decode cX8_init 90 = .ok (.putfield 41, 3) := by decide +kernel
theorem dX8_init_93 : decode cX8_init 93 = .ok (.aload_n 0, 1) := by decide +kernel
theorem dX8_init_94 : decode cX8_init 94 = .ok (.bipush 40, 2) := by decide +kernel
theorem dX8_init_96 : decode cX8_init 96 = .ok (.newarray .int, 2) := by decide +kernel
theorem dX8_init_98 : decode cX8_init 98 = .ok (.putfield 44, 3) := by decide +kernel
theorem dX8_init_101 : decode cX8_init 101 = .ok (.aload_n 0, 1) := by decide +kernel
theorem dX8_init_102 : decode cX8_init 102 = .ok (.bipush 16, 2) := by decide +kernel
theorem dX8_init_104 : decode cX8_init 104 = .ok (.newarray .int, 2) := by decide +kernel
theorem dX8_init_106 : decode cX8_init 106 = .ok (.putfield 47, 3) := by decide +kernel
theorem dX8_init_109 : decode cX8_init 109 = .ok (.aload_n 0, 1) := by decide +kernel
theorem dX8_init_110 : decode cX8_init 110 = .ok (.sipush 256, 3) := by decide +kernel
theorem dX8_init_113 : decode cX8_init 113 = .ok (.newarray .long, 2) := by decide +kernel
theorem dX8_init_115 : decode cX8_init 115 = .ok (.putfield 50, 3) := by decide +kernel
theorem dX8_init_118 : decode cX8_init 118 = .ok (.aload_n 0, 1) := by decide +kernel
theorem dX8_init_119 : decode cX8_init 119 = .ok (.bipush 15, 2) := by decide +kernel
theorem dX8_init_121 : decode cX8_init 121 = .ok (.newarray .int, 2) := by decide +kernel
theorem dX8_init_123 : decode cX8_init 123 = .ok (.putfield 54, 3) := by decide +kernel
theorem dX8_init_126 : decode cX8_init 126 = .ok (.aload_n 0, 1) := by decide +kernel
theorem dX8_init_127 : decode cX8_init 127 = .ok (.bipush 15, 2) := by decide +kernel
theorem dX8_init_129 : decode cX8_init 129 = .ok (.newarray .int, 2) := by decide +kernel
theorem dX8_init_131 : decode cX8_init 131 = .ok (.putfield 57, 3) := by decide +kernel
theorem dX8_init_134 : decode cX8_init 134 = .ok (.aload_n 0, 1) := by decide +kernel
theorem dX8_init_135 : decode cX8_init 135 = .ok (.bipush 15, 2) := by decide +kernel
theorem dX8_init_137 : decode cX8_init 137 = .ok (.newarray .long, 2) := by decide +kernel
theorem dX8_init_139 : decode cX8_init 139 = .ok (.putfield 60, 3) := by decide +kernel
theorem dX8_init_142 : decode cX8_init 142 = .ok (.aload_n 0, 1) := by decide +kernel
theorem dX8_init_143 : decode cX8_init 143 = .ok (.bipush 15, 2) := by decide +kernel
theorem dX8_init_145 : decode cX8_init 145 = .ok (.newarray .int, 2) := by decide +kernel
theorem dX8_init_147 : decode cX8_init 147 = .ok (.putfield 63, 3) := by decide +kernel
theorem dX8_init_150 : decode cX8_init 150 = .ok (.aload_n 0, 1) := by decide +kernel
theorem dX8_init_151 : decode cX8_init 151 = .ok (.bipush 15, 2) := by decide +kernel
theorem dX8_init_153 : decode cX8_init 153 = .ok (.newarray .int, 2) := by decide +kernel
theorem dX8_init_155 : decode cX8_init 155 = .ok (.putfield 66, 3) := by decide +kernel
theorem dX8_init_158 : decode cX8_init 158 = .ok (.aload_n 0, 1) := by decide +kernel
theorem dX8_init_159 : decode cX8_init 159 = .ok (.bipush 10, 2) := by decide +kernel
theorem dX8_init_161 : decode cX8_init 161 = .ok (.newarray .int, 2) := by decide +kernel
theorem dX8_init_163 : decode cX8_init 163 = .ok (.putfield 69, 3) := by decide +kernel
theorem dX8_init_166 : decode cX8_init 166 = .ok (.aload_n 0, 1) := by decide +kernel
theorem dX8_init_167 : decode cX8_init 167 = .ok (.bipush 10, 2) := by decide +kernel
theorem dX8_init_169 : decode cX8_init 169 = .ok (.newarray .int, 2) := by decide +kernel
theorem dX8_init_171 : decode cX8_init 171 = .ok (.putfield 72, 3) := by decide +kernel
theorem dX8_init_174 : decode cX8_init 174 = .ok (.aload_n 0, 1) := by decide +kernel
theorem dX8_init_175 : decode cX8_init 175 = .ok (.bipush 10, 2) := by decide +kernel
theorem dX8_init_177 : decode cX8_init 177 = .ok (.newarray .int, 2) := by decide +kernel
theorem dX8_init_179 : decode cX8_init 179 = .ok (.putfield 75, 3) := by decide +kernel
theorem dX8_init_182 : decode cX8_init 182 = .ok (.aload_n 0, 1) := by decide +kernel
theorem dX8_init_183 : decode cX8_init 183 = .ok (.sipush 200, 3) := by decide +kernel
theorem dX8_init_186 : decode cX8_init 186 = .ok (.newarray .int, 2) := by decide +kernel
theorem dX8_init_188 : decode cX8_init 188 = .ok (.putfield 78, 3) := by decide +kernel
theorem dX8_init_191 : decode cX8_init 191 = .ok (.aload_n 0, 1) := by decide +kernel
theorem dX8_init_192 : decode cX8_init 192 = .ok (.sipush 200, 3) := by decide +kernel
theorem dX8_init_195 : decode cX8_init 195 = .ok (.newarray .long, 2) := by decide +kernel
theorem dX8_init_197 : decode cX8_init 197 = .ok (.putfield 81, 3) := by decide +kernel
theorem dX8_init_200 : decode cX8_init 200 = .ok (.aload_n 0, 1) := by decide +kernel
theorem dX8_init_201 : decode cX8_init 201 = .ok (.bipush 8, 2) := by decide +kernel
theorem dX8_init_203 : decode cX8_init 203 = .ok (.newarray .boolean, 2) := by decide +kernel
theorem dX8_init_205 : decode cX8_init 205 = .ok (.putfield 84, 3) := by decide +kernel
theorem dX8_init_208 : decode cX8_init 208 = .ok (.aload_n 0, 1) := by decide +kernel
theorem dX8_init_209 : decode cX8_init 209 = .ok (.bipush 8, 2) := by decide +kernel
theorem dX8_init_211 : decode cX8_init 211 = .ok (.newarray .int, 2) := by decide +kernel
theorem dX8_init_213 : decode cX8_init 213 = .ok (.putfield 87, 3) := by decide +kernel
theorem dX8_init_216 : decode cX8_init 216 = .ok (.aload_n 0, 1) := by decide +kernel
theorem dX8_init_217 : decode cX8_init 217 = .ok (.bipush 8, 2) := by decide +kernel
theorem dX8_init_219 : decode cX8_init 219 = .ok (.newarray .int, 2) := by decide +kernel
theorem dX8_init_221 : decode cX8_init 221 = .ok (.putfield 90, 3) := by decide +kernel
theorem dX8_init_224 : decode cX8_init 224 = .ok (.aload_n 0, 1) := by decide +kernel
theorem dX8_init_225 : decode cX8_init 225 = .ok (.bipush 60, 2) := by decide +kernel
theorem dX8_init_227 : decode cX8_init 227 = .ok (.newarray .int, 2) := by decide +kernel
theorem dX8_init_229 : decode cX8_init 229 = .ok (.putfield 93, 3) := by decide +kernel
theorem dX8_init_232 : decode cX8_init 232 = .ok (.aload_n 0, 1) := by decide +kernel
theorem dX8_init_233 : decode cX8_init 233 = .ok (.bipush 60, 2) := by decide +kernel
theorem dX8_init_235 : decode cX8_init 235 = .ok (.newarray .int, 2) := by decide +kernel
theorem dX8_init_237 : decode cX8_init 237 = .ok (.putfield 96, 3) := by decide +kernel
theorem dX8_init_240 : decode cX8_init 240 = .ok (.aload_n 0, 1) := by decide +kernel
theorem dX8_init_241 : decode cX8_init 241 = .ok (.bipush 60, 2) := by decide +kernel
theorem dX8_init_243 : decode cX8_init 243 = .ok (.newarray .int, 2) := by decide +kernel
theorem dX8_init_245 : decode cX8_init 245 = .ok (.putfield 99, 3) := by decide +kernel
theorem dX8_init_248 : decode cX8_init 248 = .ok (.aload_n 0, 1) := by decide +kernel
theorem dX8_init_249 : decode cX8_init 249 = .ok (.bipush 60, 2) := by decide +kernel
theorem dX8_init_251 : decode cX8_init 251 = .ok (.newarray .int, 2) := by decide +kernel
theorem dX8_init_253 : decode cX8_init 253 = .ok (.putfield 102, 3) := by decide +kernel
theorem dX8_init_256 : decode cX8_init 256 = .ok (.aload_n 0, 1) := by decide +kernel
theorem dX8_init_257 : decode cX8_init 257 = .ok (.iconst (-1), 1) := by decide +kernel
theorem dX8_init_258 : decode cX8_init 258 = .ok (.putfield 105, 3) := by decide +kernel
theorem dX8_init_261 : decode cX8_init 261 = .ok (.aload_n 0, 1) := by decide +kernel
theorem dX8_init_262 : decode cX8_init 262 = .ok (.bipush 8, 2) := by decide +kernel
theorem dX8_init_264 : decode cX8_init 264 = .ok (.newarray .int, 2) := by decide +kernel
theorem dX8_init_266 : decode cX8_init 266 = .ok (.putfield 109, 3) := by decide +kernel
theorem dX8_init_269 : decode cX8_init 269 = .ok (.aload_n 0, 1) := by decide +kernel
theorem dX8_init_270 : decode cX8_init 270 = .ok (.getfield 47, 3) := by decide +kernel
theorem dX8_init_273 : decode cX8_init 273 = .ok (.iconst 0, 1) := by decide +kernel
theorem dX8_init_274 : decode cX8_init 274 = .ok (.sipush 1000, 3) := by decide +kernel
theorem dX8_init_277 : decode cX8_init 277 = .ok (.iastore, 1) := by decide +kernel
theorem dX8_init_278 : decode cX8_init 278 = .ok (.aload_n 0, 1) := by decide +kernel
theorem dX8_init_279 : decode cX8_init 279 = .ok (.getfield 47, 3) := by decide +kernel
theorem dX8_init_282 : decode cX8_init 282 = .ok (.bipush 8, 2) := by decide +kernel
theorem dX8_init_284 : decode cX8_init 284 = .ok (.sipush (-1000), 3) := by decide +kernel
theorem dX8_init_287 : decode cX8_init 287 = .ok (.iastore, 1) := by decide +kernel
theorem dX8_init_288 : decode cX8_init 288 = .ok (.aload_n 0, 1) := by decide +kernel
theorem dX8_init_289 : decode cX8_init 289 = .ok (.getfield 47, 3) := by decide +kernel
theorem dX8_init_292 : decode cX8_init 292 = .ok (.iconst 1, 1) := by decide +kernel
theorem dX8_init_293 : decode cX8_init 293 = .ok (.sipush 924, 3) := by decide +kernel
theorem dX8_init_296 : decode cX8_init 296 = .ok (.iastore, 1) := by decide +kernel
theorem dX8_init_297 : decode cX8_init 297 = .ok (.aload_n 0, 1) := by decide +kernel
theorem dX8_init_298 : decode cX8_init 298 = .ok (.getfield 47, 3) := by decide +kernel
theorem dX8_init_301 : decode cX8_init 301 = .ok (.iconst 2, 1) := by decide +kernel
theorem dX8_init_302 : decode cX8_init 302 = .ok (.sipush 707, 3) := by decide +kernel
theorem dX8_init_305 : decode cX8_init 305 = .ok (.iastore, 1) := by decide +kernel
theorem dX8_init_306 : decode cX8_init 306 = .ok (.aload_n 0, 1) := by decide +kernel
theorem dX8_init_307 : decode cX8_init 307 = .ok (.getfield 47, 3) := by decide +kernel
theorem dX8_init_310 : decode cX8_init 310 = .ok (.iconst 3, 1) := by decide +kernel
theorem dX8_init_311 : decode cX8_init 311 = .ok (.sipush 383, 3) := by decide +kernel
theorem dX8_init_314 : decode cX8_init 314 = .ok (.iastore, 1) := by decide +kernel
theorem dX8_init_315 : decode cX8_init 315 = .ok (.aload_n 0, 1) := by decide +kernel
theorem dX8_init_316 : decode cX8_init 316 = .ok (.getfield 47, 3) := by decide +kernel
theorem dX8_init_319 : decode cX8_init 319 = .ok (.iconst 4, 1) := by decide +kernel
theorem dX8_init_320 : decode cX8_init 320 = .ok (.iconst 0, 1) := by decide +kernel
theorem dX8_init_321 : decode cX8_init 321 = .ok (.iastore, 1) := by decide +kernel
theorem dX8_init_322 : decode cX8_init 322 = .ok (.aload_n 0, 1) := by decide +kernel
theorem dX8_init_323 : decode cX8_init 323 = .ok (.getfield 47, 3) := by decide +kernel
theorem dX8_init_326 : decode cX8_init 326 = .ok (.iconst 5, 1) := by decide +kernel
theorem dX8_init_327 : decode cX8_init 327 = .ok (.sipush (-383), 3) := by decide +kernel
theorem dX8_init_330 : decode cX8_init 330 = .ok (.iastore, 1) := by decide +kernel
theorem dX8_init_331 : decode cX8_init 331 = .ok (.aload_n 0, 1) := by decide +kernel
theorem dX8_init_332 : decode cX8_init 332 = .ok (.getfield 47, 3) := by decide +kernel
theorem dX8_init_335 : decode cX8_init 335 = .ok (.bipush 6, 2) := by decide +kernel
theorem dX8_init_337 : decode cX8_init 337 = .ok (.sipush (-707), 3) := by decide +kernel
theorem dX8_init_340 : decode cX8_init 340 = .ok (.iastore, 1) := by decide +kernel
theorem dX8_init_341 : decode cX8_init 341 = .ok (.aload_n 0, 1) := by decide +kernel
theorem dX8_init_342 : decode cX8_init 342 = .ok (.getfield 47, 3) := by decide +kernel
theorem dX8_init_345 : decode cX8_init 345 = .ok (.bipush 7, 2) := by decide +kernel
theorem dX8_init_347 : decode cX8_init 347 = .ok (.sipush (-924), 3) := by decide +kernel
theorem dX8_init_350 : decode cX8_init 350 = .ok (.iastore, 1) := by decide +kernel
theorem dX8_init_351 : decode cX8_init 351 = .ok (.bipush 9, 2) := by decide +kernel
theorem dX8_init_353 : decode cX8_init 353 = .ok (.istore_n 1, 1) := by decide +kernel
theorem dX8_init_354 : decode cX8_init 354 = .ok (.iload_n 1, 1) := by decide +kernel
theorem dX8_init_355 : decode cX8_init 355 = .ok (.bipush 16, 2) := by decide +kernel
theorem dX8_init_357 : decode cX8_init 357 = .ok (.if_icmp .ge 24, 3) := by decide +kernel
theorem dX8_init_360 : decode cX8_init 360 = .ok (.aload_n 0, 1) := by decide +kernel
theorem dX8_init_361 : decode cX8_init 361 = .ok (.getfield 47, 3) := by decide +kernel
theorem dX8_init_364 : decode cX8_init 364 = .ok (.iload_n 1, 1) := by decide +kernel
theorem dX8_init_365 : decode cX8_init 365 = .ok (.aload_n 0, 1) := by decide +kernel
theorem dX8_init_366 : decode cX8_init 366 = .ok (.getfield 47, 3) := by decide +kernel
theorem dX8_init_369 : decode cX8_init 369 = .ok (.bipush 16, 2) := by decide +kernel
theorem dX8_init_371 : decode cX8_init 371 = .ok (.iload_n 1, 1) := by decide +kernel
theorem dX8_init_372 : decode cX8_init 372 = .ok (.isub, 1) := by decide +kernel
theorem dX8_init_373 : decode cX8_init 373 = .ok (.iaload, 1) := by decide +kernel
theorem dX8_init_374 : decode cX8_init 374 = .ok (.iastore, 1) := by decide +kernel
theorem dX8_init_375 : decode cX8_init 375 = .ok (.iinc 1 1, 3) := by decide +kernel
theorem dX8_init_378 : decode cX8_init 378 = .ok (.goto (-24), 3) := by decide +kernel
theorem dX8_init_381 : decode cX8_init 381 = .ok (.aload_n 0, 1) := by decide +kernel
theorem dX8_init_382 : decode cX8_init 382 = .ok (.invokevirtual 112, 3) := by decide +kernel
theorem dX8_init_385 : decode cX8_init 385 = .ok (.return_, 1) := by decide +kernel
theorem dX8_in_0 : decode cX8_in 0 = .ok (.lload_n 0, 1) := by decide +kernel
theorem dX8_in_1 : decode cX8_in 1 = .ok (.lload_n 2, 1) := by decide +kernel
theorem dX8_in_2 : decode cX8_in 2 = .ok (.lcmp, 1) := by decide +kernel
theorem dX8_in_3 : decode cX8_in 3 = .ok (.ifCond .lt 14, 3) := by decide +kernel
theorem dX8_in_6 : decode cX8_in 6 = .ok (.lload_n 0, 1) := by decide +kernel
theorem dX8_in_7 : decode cX8_in 7 = .ok (.lload 4, 2) := by decide +kernel
theorem dX8_in_9 : decode cX8_in 9 = .ok (.lcmp, 1) := by decide +kernel
theorem dX8_in_10 : decode cX8_in 10 = .ok (.ifCond .gt 7, 3) := by decide +kernel
theorem dX8_in_13 : decode cX8_in 13 = .ok (.iconst 1, 1) := by decide +kernel
theorem dX8_in_14 : decode cX8_in 14 = .ok (.goto 4, 3) := by decide +kernel
theorem dX8_in_17 : decode cX8_in 17 = .ok (.iconst 0, 1) := by decide +kernel
theorem dX8_in_18 : decode cX8_in 18 = .ok (.ireturn, 1) := by decide +kernel
theorem dX8_meets_0 : decode cX8_meets 0 = .ok (.aload_n 0, 1) := by decide +kernel
theorem dX8_meets_1 : decode cX8_meets 1 = .ok (.iload_n 1, 1) := by decide +kernel
theorem dX8_meets_2 : decode cX8_meets 2 = .ok (.putfield 115, 3) := by decide +kernel
theorem dX8_meets_5 : decode cX8_meets 5 = .ok (.bipush (-10), 2) := by decide +kernel
theorem dX8_meets_7 : decode cX8_meets 7 = .ok (.iload_n 1, 1) := by decide +kernel
theorem dX8_meets_8 : decode cX8_meets 8 = .ok (.isub, 1) := by decide +kernel
theorem dX8_meets_9 : decode cX8_meets 9 = .ok (.ireturn, 1) := by decide +kernel
theorem dX8_isDish_0 : decode cX8_isDish 0 = .ok (.iload_n 1, 1) := by decide +kernel
theorem dX8_isDish_1 : decode cX8_isDish 1 = .ok (.i2l, 1) := by decide +kernel
theorem dX8_isDish_2 : decode cX8_isDish 2 = .ok (.lconst 0, 1) := by decide +kernel
theorem dX8_isDish_3 : decode cX8_isDish 3 = .ok (.aload_n 0, 1) := by decide +kernel
theorem dX8_isDish_4 : decode cX8_isDish 4 = .ok (.getfield 118, 3) := by decide +kernel
theorem dX8_isDish_7 : decode cX8_isDish 7 = .ok (.iconst 1, 1) := by decide +kernel
theorem dX8_isDish_8 : decode cX8_isDish 8 = .ok (.isub, 1) := by decide +kernel
theorem dX8_isDish_9 : decode cX8_isDish 9 = .ok (.i2l, 1) := by decide +kernel
theorem dX8_isDish_10 : decode cX8_isDish 10 = .ok (.invokestatic 121, 3) := by decide +kernel
theorem dX8_isDish_13 : decode cX8_isDish 13 = .ok (.ireturn, 1) := by decide +kernel
theorem dX8_dish_0 : decode cX8_dish 0 = .ok (.iload_n 1, 1) := by decide +kernel
theorem dX8_dish_1 : decode cX8_dish 1 = .ok (.i2l, 1) := by decide +kernel
theorem dX8_dish_2 : decode cX8_dish 2 = .ok (.ldc2_w 125, 3) := by decide +kernel
theorem dX8_dish_5 : decode cX8_dish 5 = .ok (.ldc2_w 127, 3) := by decide +kernel
theorem dX8_dish_8 : decode cX8_dish 8 = .ok (.invokestatic 121, 3) := by decide +kernel
theorem dX8_dish_11 : decode cX8_dish 11 = .ok (.ifCond .eq 17, 3) := by decide +kernel
theorem dX8_dish_14 : decode cX8_dish 14 = .ok (.iload_n 2, 1) := by decide +kernel
theorem dX8_dish_15 : decode cX8_dish 15 = .ok (.i2l, 1) := by decide +kernel
theorem dX8_dish_16 : decode cX8_dish 16 = .ok (.ldc2_w 125, 3) := by decide +kernel
theorem dX8_dish_19 : decode cX8_dish 19 = .ok (.ldc2_w 127, 3) := by decide +kernel
theorem dX8_dish_22 : decode cX8_dish 22 = .ok (.invokestatic 121, 3) := by decide +kernel
theorem dX8_dish_25 : decode cX8_dish 25 = .ok (.ifCond .ne 6, 3) := by decide +kernel
theorem dX8_dish_28 : decode cX8_dish 28 = .ok (.bipush (-2), 2) := by decide +kernel
theorem dX8_dish_30 : decode cX8_dish 30 = .ok (.ireturn, 1) := by decide +kernel
theorem dX8_dish_31 : decode cX8_dish 31 = .ok (.aload_n 0, 1) := by decide +kernel
theorem dX8_dish_32 : decode cX8_dish 32 = .ok (.getfield 118, 3) := by decide +kernel
theorem dX8_dish_35 : decode cX8_dish 35 = .ok (.bipush 6, 2) := by decide +kernel
theorem dX8_dish_37 : decode cX8_dish 37 = .ok (.if_icmp .ne 6, 3) := by decide +kernel
theorem dX8_dish_40 : decode cX8_dish 40 = .ok (.bipush (-3), 2) := by decide +kernel
theorem dX8_dish_42 : decode cX8_dish 42 = .ok (.ireturn, 1) := by decide +kernel
theorem dX8_dish_43 : decode cX8_dish 43 = .ok (.aload_n 0, 1) := by decide +kernel
theorem dX8_dish_44 : decode cX8_dish 44 = .ok (.getfield 7, 3) := by decide +kernel
theorem dX8_dish_47 : decode cX8_dish 47 = .ok (.aload_n 0, 1) := by decide +kernel
theorem dX8_dish_48 : decode cX8_dish 48 = .ok (.getfield 118, 3) := by decide +kernel
theorem dX8_dish_51 : decode cX8_dish 51 = .ok (.iload_n 1, 1) := by decide +kernel
theorem dX8_dish_52 : decode cX8_dish 52 = .ok (.iastore, 1) := by decide +kernel
theorem dX8_dish_53 : decode cX8_dish 53 = .ok (.aload_n 0, 1) := by decide +kernel
theorem dX8_dish_54 : decode cX8_dish 54 = .ok (.getfield 13, 3) := by decide +kernel
theorem dX8_dish_57 : decode cX8_dish 57 = .ok (.aload_n 0, 1) := by decide +kernel
theorem dX8_dish_58 : decode cX8_dish 58 = .ok (.getfield 118, 3) := by decide +kernel
theorem dX8_dish_61 : decode cX8_dish 61 = .ok (.iload_n 2, 1) := by decide +kernel
theorem dX8_dish_62 : decode cX8_dish 62 = .ok (.iastore, 1) := by decide +kernel
theorem dX8_dish_63 : decode cX8_dish 63 = .ok (.aload_n 0, 1) := by decide +kernel
theorem dX8_dish_64 : decode cX8_dish 64 = .ok (.getfield 19, 3) := by decide +kernel
theorem dX8_dish_67 : decode cX8_dish 67 = .ok (.aload_n 0, 1) := by decide +kernel
theorem dX8_dish_68 : decode cX8_dish 68 = .ok (.getfield 118, 3) := by decide +kernel
theorem dX8_dish_71 : decode cX8_dish 71 = .ok (.iconst 1, 1) := by decide +kernel
theorem dX8_dish_72 : decode cX8_dish 72 = .ok (.iastore, 1) := by decide +kernel
theorem dX8_dish_73 : decode cX8_dish 73 = .ok (.aload_n 0, 1) := by decide +kernel
theorem dX8_dish_74 : decode cX8_dish 74 = .ok (.dup, 1) := by decide +kernel
theorem dX8_dish_75 : decode cX8_dish 75 = .ok (.getfield 118, 3) := by decide +kernel
theorem dX8_dish_78 : decode cX8_dish 78 = .ok (.iconst 1, 1) := by decide +kernel
theorem dX8_dish_79 : decode cX8_dish 79 = .ok (.iadd, 1) := by decide +kernel
theorem dX8_dish_80 : decode cX8_dish 80 = .ok (.putfield 118, 3) := by decide +kernel
theorem dX8_dish_83 : decode cX8_dish 83 = .ok (.aload_n 0, 1) := by decide +kernel
theorem dX8_dish_84 : decode cX8_dish 84 = .ok (.getfield 118, 3) := by decide +kernel
theorem dX8_dish_87 : decode cX8_dish 87 = .ok (.iconst 1, 1) := by decide +kernel
theorem dX8_dish_88 : decode cX8_dish 88 = .ok (.isub, 1) := by decide +kernel
theorem dX8_dish_89 : decode cX8_dish 89 = .ok (.ireturn, 1) := by decide +kernel
theorem dX8_tune_0 : decode cX8_tune 0 = .ok (.aload_n 0, 1) := by decide +kernel
theorem dX8_tune_1 : decode cX8_tune 1 = .ok (.iload_n 1, 1) := by decide +kernel
theorem dX8_tune_2 : decode cX8_tune 2 = .ok (.invokevirtual 129, 3) := by decide +kernel
theorem dX8_tune_5 : decode cX8_tune 5 = .ok (.ifCond .eq 33, 3) := by decide +kernel
theorem dX8_tune_8 : decode cX8_tune 8 = .ok (.iload_n 2, 1) := by decide +kernel
theorem dX8_tune_9 : decode cX8_tune 9 = .ok (.i2l, 1) := by decide +kernel
theorem dX8_tune_10 : decode cX8_tune 10 = .ok (.lconst 0, 1) := by decide +kernel
theorem dX8_tune_11 : decode cX8_tune 11 = .ok (.ldc2_w 133, 3) := by decide +kernel
theorem dX8_tune_14 : decode cX8_tune 14 = .ok (.invokestatic 121, 3) := by decide +kernel
theorem dX8_tune_17 : decode cX8_tune 17 = .ok (.ifCond .eq 21, 3) := by decide +kernel
theorem dX8_tune_20 : decode cX8_tune 20 = .ok (.iload_n 3, 1) := by decide +kernel
theorem dX8_tune_21 : decode cX8_tune 21 = .ok (.i2l, 1) := by decide +kernel
theorem dX8_tune_22 : decode cX8_tune 22 = .ok (.ldc2_w 135, 3) := by decide +kernel
theorem dX8_tune_25 : decode cX8_tune 25 = .ok (.ldc2_w 137, 3) := by decide +kernel
theorem dX8_tune_28 : decode cX8_tune 28 = .ok (.invokestatic 121, 3) := by decide +kernel
theorem dX8_tune_31 : decode cX8_tune 31 = .ok (.ifCond .eq 7, 3) := by decide +kernel
theorem dX8_tune_34 : decode cX8_tune 34 = .ok (.iload_n 3, 1) := by decide +kernel
theorem dX8_tune_35 : decode cX8_tune 35 = .ok (.ifCond .ne 6, 3) := by decide +kernel
theorem dX8_tune_38 : decode cX8_tune 38 = .ok (.bipush (-2), 2) := by decide +kernel
theorem dX8_tune_40 : decode cX8_tune 40 = .ok (.ireturn, 1) := by decide +kernel
theorem dX8_tune_41 : decode cX8_tune 41 = .ok (.aload_n 0, 1) := by decide +kernel
theorem dX8_tune_42 : decode cX8_tune 42 = .ok (.getfield 16, 3) := by decide +kernel
theorem dX8_tune_45 : decode cX8_tune 45 = .ok (.iload_n 1, 1) := by decide +kernel
theorem dX8_tune_46 : decode cX8_tune 46 = .ok (.iload_n 2, 1) := by decide +kernel
theorem dX8_tune_47 : decode cX8_tune 47 = .ok (.iastore, 1) := by decide +kernel
theorem dX8_tune_48 : decode cX8_tune 48 = .ok (.aload_n 0, 1) := by decide +kernel
theorem dX8_tune_49 : decode cX8_tune 49 = .ok (.getfield 19, 3) := by decide +kernel
theorem dX8_tune_52 : decode cX8_tune 52 = .ok (.iload_n 1, 1) := by decide +kernel
theorem dX8_tune_53 : decode cX8_tune 53 = .ok (.iload_n 3, 1) := by decide +kernel
theorem dX8_tune_54 : decode cX8_tune 54 = .ok (.iastore, 1) := by decide +kernel
theorem dX8_tune_55 : decode cX8_tune 55 = .ok (.iconst 1, 1) := by decide +kernel
theorem dX8_tune_56 : decode cX8_tune 56 = .ok (.ireturn, 1) := by decide +kernel
theorem dX8_reel_0 : decode cX8_reel 0 = .ok (.aload_n 0, 1) := by decide +kernel
theorem dX8_reel_1 : decode cX8_reel 1 = .ok (.iload_n 1, 1) := by decide +kernel
theorem dX8_reel_2 : decode cX8_reel 2 = .ok (.invokevirtual 129, 3) := by decide +kernel
theorem dX8_reel_5 : decode cX8_reel 5 = .ok (.ifCond .eq 21, 3) := by decide +kernel
theorem dX8_reel_8 : decode cX8_reel 8 = .ok (.iload_n 2, 1) := by decide +kernel
theorem dX8_reel_9 : decode cX8_reel 9 = .ok (.i2l, 1) := by decide +kernel
theorem dX8_reel_10 : decode cX8_reel 10 = .ok (.lconst 0, 1) := by decide +kernel
theorem dX8_reel_11 : decode cX8_reel 11 = .ok (.ldc2_w 139, 3) := by decide +kernel
theorem dX8_reel_14 : decode cX8_reel 14 = .ok (.invokestatic 121, 3) := by decide +kernel
theorem dX8_reel_17 : decode cX8_reel 17 = .ok (.ifCond .eq 9, 3) := by decide +kernel
theorem dX8_reel_20 : decode cX8_reel 20 = .ok (.iload_n 3, 1) := by decide +kernel
theorem dX8_reel_21 : decode cX8_reel 21 = .ok (.bipush 100, 2) := by decide +kernel
theorem dX8_reel_23 : decode cX8_reel 23 = .ok (.if_icmp .le 6, 3) := by decide +kernel
theorem dX8_reel_26 : decode cX8_reel 26 = .ok (.bipush (-2), 2) := by decide +kernel
theorem dX8_reel_28 : decode cX8_reel 28 = .ok (.ireturn, 1) := by decide +kernel
theorem dX8_reel_29 : decode cX8_reel 29 = .ok (.iload_n 3, 1) := by decide +kernel
theorem dX8_reel_30 : decode cX8_reel 30 = .ok (.ifCond .ge 9, 3) := by decide +kernel
theorem dX8_reel_33 : decode cX8_reel 33 = .ok (.aload_n 0, 1) := by decide +kernel
theorem dX8_reel_34 : decode cX8_reel 34 = .ok (.iconst 5, 1) := by decide +kernel
theorem dX8_reel_35 : decode cX8_reel 35 = .ok (.invokevirtual 141, 3) := by decide +kernel
theorem dX8_reel_38 : decode cX8_reel 38 = .ok (.ireturn, 1) := by decide +kernel
theorem dX8_reel_39 : decode cX8_reel 39 = .ok (.aload_n 0, 1) := by decide +kernel
theorem dX8_reel_40 : decode cX8_reel 40 = .ok (.getfield 22, 3) := by decide +kernel
theorem dX8_reel_43 : decode cX8_reel 43 = .ok (.iload_n 1, 1) := by decide +kernel
theorem dX8_reel_44 : decode cX8_reel 44 = .ok (.iconst 1, 1) := by decide +kernel
theorem dX8_reel_45 : decode cX8_reel 45 = .ok (.bastore, 1) := by decide +kernel
theorem dX8_reel_46 : decode cX8_reel 46 = .ok (.aload_n 0, 1) := by decide +kernel
theorem dX8_reel_47 : decode cX8_reel 47 = .ok (.getfield 26, 3) := by decide +kernel
theorem dX8_reel_50 : decode cX8_reel 50 = .ok (.iload_n 1, 1) := by decide +kernel
theorem dX8_reel_51 : decode cX8_reel 51 = .ok (.iload_n 2, 1) := by decide +kernel
theorem dX8_reel_52 : decode cX8_reel 52 = .ok (.iastore, 1) := by decide +kernel
theorem dX8_reel_53 : decode cX8_reel 53 = .ok (.aload_n 0, 1) := by decide +kernel
theorem dX8_reel_54 : decode cX8_reel 54 = .ok (.getfield 29, 3) := by decide +kernel
theorem dX8_reel_57 : decode cX8_reel 57 = .ok (.iload_n 1, 1) := by decide +kernel
theorem dX8_reel_58 : decode cX8_reel 58 = .ok (.iload_n 3, 1) := by decide +kernel
theorem dX8_reel_59 : decode cX8_reel 59 = .ok (.iastore, 1) := by decide +kernel
theorem dX8_reel_60 : decode cX8_reel 60 = .ok (.iconst 0, 1) := by decide +kernel
theorem dX8_reel_61 : decode cX8_reel 61 = .ok (.istore 4, 2) := by decide +kernel
theorem dX8_reel_63 : decode cX8_reel 63 = .ok (.iload 4, 2) := by decide +kernel
theorem dX8_reel_65 : decode cX8_reel 65 = .ok (.bipush 100, 2) := by decide +kernel
theorem dX8_reel_67 : decode cX8_reel 67 = .ok (.if_icmp .ge 22, 3) := by decide +kernel
theorem dX8_reel_70 : decode cX8_reel 70 = .ok (.aload_n 0, 1) := by decide +kernel
theorem dX8_reel_71 : decode cX8_reel 71 = .ok (.getfield 32, 3) := by decide +kernel
theorem dX8_reel_74 : decode cX8_reel 74 = .ok (.bipush 100, 2) := by decide +kernel
theorem dX8_reel_76 : decode cX8_reel 76 = .ok (.iload_n 1, 1) := by decide +kernel
theorem dX8_reel_77 : decode cX8_reel 77 = .ok (.imul, 1) := by decide +kernel
theorem dX8_reel_78 : decode cX8_reel 78 = .ok (.iload 4, 2) := by decide +kernel
theorem dX8_reel_80 : decode cX8_reel 80 = .ok (.iadd, 1) := by decide +kernel
theorem dX8_reel_81 : decode cX8_reel 81 = .ok (.iconst 0, 1) := by decide +kernel
theorem dX8_reel_82 : decode cX8_reel 82 = .ok (.iastore, 1) := by decide +kernel
theorem dX8_reel_83 : decode cX8_reel 83 = .ok (.iinc 4 1, 3) := by decide +kernel
theorem dX8_reel_86 : decode cX8_reel 86 = .ok (.goto (-23), 3) := by decide +kernel
theorem dX8_reel_89 : decode cX8_reel 89 = .ok (.iload_n 3, 1) := by decide +kernel
theorem dX8_reel_90 : decode cX8_reel 90 = .ok (.ireturn, 1) := by decide +kernel
theorem dX8_lose_0 : decode cX8_lose 0 = .ok (.aload_n 0, 1) := by decide +kernel
theorem dX8_lose_1 : decode cX8_lose 1 = .ok (.iload_n 1, 1) := by decide +kernel
theorem dX8_lose_2 : decode cX8_lose 2 = .ok (.invokevirtual 129, 3) := by decide +kernel
theorem dX8_lose_5 : decode cX8_lose 5 = .ok (.ifCond .ne 6, 3) := by decide +kernel
theorem dX8_lose_8 : decode cX8_lose 8 = .ok (.bipush (-2), 2) := by decide +kernel
theorem dX8_lose_10 : decode cX8_lose 10 = .ok (.ireturn, 1) := by decide +kernel
theorem dX8_lose_11 : decode cX8_lose 11 = .ok (.aload_n 0, 1) := by decide +kernel
theorem dX8_lose_12 : decode cX8_lose 12 = .ok (.getfield 22, 3) := by decide +kernel
theorem dX8_lose_15 : decode cX8_lose 15 = .ok (.iload_n 1, 1) := by decide +kernel
theorem dX8_lose_16 : decode cX8_lose 16 = .ok (.baload, 1) := by decide +kernel
theorem dX8_lose_17 : decode cX8_lose 17 = .ok (.ifCond .ne 9, 3) := by decide +kernel
theorem dX8_lose_20 : decode cX8_lose 20 = .ok (.aload_n 0, 1) := by decide +kernel
theorem dX8_lose_21 : decode cX8_lose 21 = .ok (.iconst 1, 1) := by decide +kernel
theorem dX8_lose_22 : decode cX8_lose 22 = .ok (.invokevirtual 141, 3) := by decide +kernel
theorem dX8_lose_25 : decode cX8_lose 25 = .ok (.ireturn, 1) := by decide +kernel
theorem dX8_lose_26 : decode cX8_lose 26 = .ok (.aload_n 0, 1) := by decide +kernel
theorem dX8_lose_27 : decode cX8_lose 27 = .ok (.getfield 22, 3) := by decide +kernel
theorem dX8_lose_30 : decode cX8_lose 30 = .ok (.iload_n 1, 1) := by decide +kernel
theorem dX8_lose_31 : decode cX8_lose 31 = .ok (.iconst 0, 1) := by decide +kernel
theorem dX8_lose_32 : decode cX8_lose 32 = .ok (.bastore, 1) := by decide +kernel
theorem dX8_lose_33 : decode cX8_lose 33 = .ok (.aload_n 0, 1) := by decide +kernel
theorem dX8_lose_34 : decode cX8_lose 34 = .ok (.getfield 29, 3) := by decide +kernel
theorem dX8_lose_37 : decode cX8_lose 37 = .ok (.iload_n 1, 1) := by decide +kernel
theorem dX8_lose_38 : decode cX8_lose 38 = .ok (.iaload, 1) := by decide +kernel
theorem dX8_lose_39 : decode cX8_lose 39 = .ok (.ireturn, 1) := by decide +kernel
theorem dX8_lacks_0 : decode cX8_lacks 0 = .ok (.aload_n 0, 1) := by decide +kernel
theorem dX8_lacks_1 : decode cX8_lacks 1 = .ok (.getfield 22, 3) := by decide +kernel
theorem dX8_lacks_4 : decode cX8_lacks 4 = .ok (.iload_n 1, 1) := by decide +kernel
theorem dX8_lacks_5 : decode cX8_lacks 5 = .ok (.baload, 1) := by decide +kernel
theorem dX8_lacks_6 : decode cX8_lacks 6 = .ok (.ifCond .ne 7, 3) := by decide +kernel
theorem dX8_lacks_9 : decode cX8_lacks 9 = .ok (.iconst 1, 1) := by decide +kernel
theorem dX8_lacks_10 : decode cX8_lacks 10 = .ok (.goto 40, 3) := by decide +kernel
theorem dX8_lacks_13 : decode cX8_lacks 13 = .ok (.aload_n 0, 1) := by decide +kernel
theorem dX8_lacks_14 : decode cX8_lacks 14 = .ok (.getfield 26, 3) := by decide +kernel
theorem dX8_lacks_17 : decode cX8_lacks 17 = .ok (.iload_n 1, 1) := by decide +kernel
theorem dX8_lacks_18 : decode cX8_lacks 18 = .ok (.iaload, 1) := by decide +kernel
theorem dX8_lacks_19 : decode cX8_lacks 19 = .ok (.iload_n 2, 1) := by decide +kernel
theorem dX8_lacks_20 : decode cX8_lacks 20 = .ok (.if_icmp .eq 7, 3) := by decide +kernel
theorem dX8_lacks_23 : decode cX8_lacks 23 = .ok (.iconst 3, 1) := by decide +kernel
theorem dX8_lacks_24 : decode cX8_lacks 24 = .ok (.goto 26, 3) := by decide +kernel
theorem dX8_lacks_27 : decode cX8_lacks 27 = .ok (.iload_n 3, 1) := by decide +kernel
theorem dX8_lacks_28 : decode cX8_lacks 28 = .ok (.i2l, 1) := by decide +kernel
theorem dX8_lacks_29 : decode cX8_lacks 29 = .ok (.lconst 0, 1) := by decide +kernel
theorem dX8_lacks_30 : decode cX8_lacks 30 = .ok (.aload_n 0, 1) := by decide +kernel
theorem dX8_lacks_31 : decode cX8_lacks 31 = .ok (.getfield 29, 3) := by decide +kernel
theorem dX8_lacks_34 : decode cX8_lacks 34 = .ok (.iload_n 1, 1) := by decide +kernel
theorem dX8_lacks_35 : decode cX8_lacks 35 = .ok (.iaload, 1) := by decide +kernel
theorem dX8_lacks_36 : decode cX8_lacks 36 = .ok (.iconst 1, 1) := by decide +kernel
theorem dX8_lacks_37 : decode cX8_lacks 37 = .ok (.isub, 1) := by decide +kernel
theorem dX8_lacks_38 : decode cX8_lacks 38 = .ok (.i2l, 1) := by decide +kernel
theorem dX8_lacks_39 : decode cX8_lacks 39 = .ok (.invokestatic 121, 3) := by decide +kernel
theorem dX8_lacks_42 : decode cX8_lacks 42 = .ok (.ifCond .eq 7, 3) := by decide +kernel
theorem dX8_lacks_45 : decode cX8_lacks 45 = .ok (.iconst 0, 1) := by decide +kernel
theorem dX8_lacks_46 : decode cX8_lacks 46 = .ok (.goto 4, 3) := by decide +kernel
theorem dX8_lacks_49 : decode cX8_lacks 49 = .ok (.iconst 2, 1) := by decide +kernel
theorem dX8_lacks_50 : decode cX8_lacks 50 = .ok (.ireturn, 1) := by decide +kernel
theorem dX8_put_0 : decode cX8_put 0 = .ok (.aload_n 0, 1) := by decide +kernel
theorem dX8_put_1 : decode cX8_put 1 = .ok (.iload_n 1, 1) := by decide +kernel
theorem dX8_put_2 : decode cX8_put 2 = .ok (.invokevirtual 129, 3) := by decide +kernel
theorem dX8_put_5 : decode cX8_put 5 = .ok (.ifCond .eq 15, 3) := by decide +kernel
theorem dX8_put_8 : decode cX8_put 8 = .ok (.iload_n 2, 1) := by decide +kernel
theorem dX8_put_9 : decode cX8_put 9 = .ok (.i2l, 1) := by decide +kernel
theorem dX8_put_10 : decode cX8_put 10 = .ok (.lconst 0, 1) := by decide +kernel
theorem dX8_put_11 : decode cX8_put 11 = .ok (.ldc2_w 139, 3) := by decide +kernel
theorem dX8_put_14 : decode cX8_put 14 = .ok (.invokestatic 121, 3) := by decide +kernel
theorem dX8_put_17 : decode cX8_put 17 = .ok (.ifCond .ne 6, 3) := by decide +kernel
theorem dX8_put_20 : decode cX8_put 20 = .ok (.bipush (-2), 2) := by decide +kernel
theorem dX8_put_22 : decode cX8_put 22 = .ok (.ireturn, 1) := by decide +kernel
theorem dX8_put_23 : decode cX8_put 23 = .ok (.aload_n 0, 1) := by decide +kernel
theorem dX8_put_24 : decode cX8_put 24 = .ok (.iload_n 1, 1) := by decide +kernel
theorem dX8_put_25 : decode cX8_put 25 = .ok (.iload_n 2, 1) := by decide +kernel
theorem dX8_put_26 : decode cX8_put 26 = .ok (.iload_n 3, 1) := by decide +kernel
theorem dX8_put_27 : decode cX8_put 27 = .ok (.invokevirtual 145, 3) := by decide +kernel
theorem dX8_put_30 : decode cX8_put 30 = .ok (.istore 5, 2) := by decide +kernel
theorem dX8_put_32 : decode cX8_put 32 = .ok (.iload 5, 2) := by decide +kernel
theorem dX8_put_34 : decode cX8_put 34 = .ok (.ifCond .le 10, 3) := by decide +kernel
theorem dX8_put_37 : decode cX8_put 37 = .ok (.aload_n 0, 1) := by decide +kernel
theorem dX8_put_38 : decode cX8_put 38 = .ok (.iload 5, 2) := by decide +kernel
theorem dX8_put_40 : decode cX8_put 40 = .ok (.invokevirtual 141, 3) := by decide +kernel
theorem dX8_put_43 : decode cX8_put 43 = .ok (.ireturn, 1) := by decide +kernel
theorem dX8_put_44 : decode cX8_put 44 = .ok (.aload_n 0, 1) := by decide +kernel
theorem dX8_put_45 : decode cX8_put 45 = .ok (.getfield 32, 3) := by decide +kernel
theorem dX8_put_48 : decode cX8_put 48 = .ok (.bipush 100, 2) := by decide +kernel
theorem dX8_put_50 : decode cX8_put 50 = .ok (.iload_n 1, 1) := by decide +kernel
theorem dX8_put_51 : decode cX8_put 51 = .ok (.imul, 1) := by decide +kernel
theorem dX8_put_52 : decode cX8_put 52 = .ok (.iload_n 3, 1) := by decide +kernel
theorem dX8_put_53 : decode cX8_put 53 = .ok (.iadd, 1) := by decide +kernel
theorem dX8_put_54 : decode cX8_put 54 = .ok (.iload_n 2, 1) := by decide +kernel
theorem dX8_put_55 : decode cX8_put 55 = .ok (.ifCond .ne 9, 3) := by decide +kernel
theorem dX8_put_58 : decode cX8_put 58 = .ok (.iload 4, 2) := by decide +kernel
theorem dX8_put_60 : decode cX8_put 60 = .ok (.i2b, 1) := by decide +kernel
theorem dX8_put_61 : decode cX8_put 61 = .ok (.goto 16, 3) := by decide +kernel
theorem dX8_put_64 : decode cX8_put 64 = .ok (.iload_n 2, 1) := by decide +kernel
theorem dX8_put_65 : decode cX8_put 65 = .ok (.iconst 1, 1) := by decide +kernel
theorem dX8_put_66 : decode cX8_put 66 = .ok (.if_icmp .ne 9, 3) := by decide +kernel
theorem dX8_put_69 : decode cX8_put 69 = .ok (.iload 4, 2) := by decide +kernel
theorem dX8_put_71 : decode cX8_put 71 = .ok (.i2s, 1) := by decide +kernel
theorem dX8_put_72 : decode cX8_put 72 = .ok (.goto 5, 3) := by decide +kernel
theorem dX8_put_75 : decode cX8_put 75 = .ok (.iload 4, 2) := by decide +kernel
theorem dX8_put_77 : decode cX8_put 77 = .ok (.iastore, 1) := by decide +kernel
theorem dX8_put_78 : decode cX8_put 78 = .ok (.iconst 1, 1) := by decide +kernel
theorem dX8_put_79 : decode cX8_put 79 = .ok (.ireturn, 1) := by decide +kernel
theorem dX8_get_0 : decode cX8_get 0 = .ok (.aload_n 0, 1) := by decide +kernel
theorem dX8_get_1 : decode cX8_get 1 = .ok (.iload_n 1, 1) := by decide +kernel
theorem dX8_get_2 : decode cX8_get 2 = .ok (.invokevirtual 129, 3) := by decide +kernel
theorem dX8_get_5 : decode cX8_get 5 = .ok (.ifCond .eq 15, 3) := by decide +kernel
theorem dX8_get_8 : decode cX8_get 8 = .ok (.iload_n 2, 1) := by decide +kernel
theorem dX8_get_9 : decode cX8_get 9 = .ok (.i2l, 1) := by decide +kernel
theorem dX8_get_10 : decode cX8_get 10 = .ok (.lconst 0, 1) := by decide +kernel
theorem dX8_get_11 : decode cX8_get 11 = .ok (.ldc2_w 139, 3) := by decide +kernel
theorem dX8_get_14 : decode cX8_get 14 = .ok (.invokestatic 121, 3) := by decide +kernel
theorem dX8_get_17 : decode cX8_get 17 = .ok (.ifCond .ne 6, 3) := by decide +kernel
theorem dX8_get_20 : decode cX8_get 20 = .ok (.ldc 149, 2) := by decide +kernel
theorem dX8_get_22 : decode cX8_get 22 = .ok (.ireturn, 1) := by decide +kernel
theorem dX8_get_23 : decode cX8_get 23 = .ok (.aload_n 0, 1) := by decide +kernel
theorem dX8_get_24 : decode cX8_get 24 = .ok (.iload_n 1, 1) := by decide +kernel
theorem dX8_get_25 : decode cX8_get 25 = .ok (.iload_n 2, 1) := by decide +kernel
theorem dX8_get_26 : decode cX8_get 26 = .ok (.iload_n 3, 1) := by decide +kernel
theorem dX8_get_27 : decode cX8_get 27 = .ok (.invokevirtual 145, 3) := by decide +kernel
theorem dX8_get_30 : decode cX8_get 30 = .ok (.istore 4, 2) := by decide +kernel
theorem dX8_get_32 : decode cX8_get 32 = .ok (.iload 4, 2) := by decide +kernel
theorem dX8_get_34 : decode cX8_get 34 = .ok (.ifCond .le 12, 3) := by decide +kernel
theorem dX8_get_37 : decode cX8_get 37 = .ok (.aload_n 0, 1) := by decide +kernel
theorem dX8_get_38 : decode cX8_get 38 = .ok (.iload 4, 2) := by decide +kernel
theorem dX8_get_40 : decode cX8_get 40 = .ok (.putfield 115, 3) := by decide +kernel
theorem dX8_get_43 : decode cX8_get 43 = .ok (.ldc 149, 2) := by decide +kernel
theorem dX8_get_45 : decode cX8_get 45 = .ok (.ireturn, 1) := by decide +kernel
theorem dX8_get_46 : decode cX8_get 46 = .ok (.aload_n 0, 1) := by decide +kernel
theorem dX8_get_47 : decode cX8_get 47 = .ok (.getfield 32, 3) := by decide +kernel
theorem dX8_get_50 : decode cX8_get 50 = .ok (.bipush 100, 2) := by decide +kernel
theorem dX8_get_52 : decode cX8_get 52 = .ok (.iload_n 1, 1) := by decide +kernel
theorem dX8_get_53 : decode cX8_get 53 = .ok (.imul, 1) := by decide +kernel
theorem dX8_get_54 : decode cX8_get 54 = .ok (.iload_n 3, 1) := by decide +kernel
theorem dX8_get_55 : decode cX8_get 55 = .ok (.iadd, 1) := by decide +kernel
theorem dX8_get_56 : decode cX8_get 56 = .ok (.iaload, 1) := by decide +kernel
theorem dX8_get_57 : decode cX8_get 57 = .ok (.ireturn, 1) := by decide +kernel
theorem dX8_copy_0 : decode cX8_copy 0 = .ok (.aload_n 0, 1) := by decide +kernel
theorem dX8_copy_1 : decode cX8_copy 1 = .ok (.iload_n 1, 1) := by decide +kernel
theorem dX8_copy_2 : decode cX8_copy 2 = .ok (.invokevirtual 129, 3) := by decide +kernel
theorem dX8_copy_5 : decode cX8_copy 5 = .ok (.ifCond .eq 11, 3) := by decide +kernel
theorem dX8_copy_8 : decode cX8_copy 8 = .ok (.aload_n 0, 1) := by decide +kernel
theorem dX8_copy_9 : decode cX8_copy 9 = .ok (.iload_n 3, 1) := by decide +kernel
theorem dX8_copy_10 : decode cX8_copy 10 = .ok (.invokevirtual 129, 3) := by decide +kernel
theorem dX8_copy_13 : decode cX8_copy 13 = .ok (.ifCond .ne 6, 3) := by decide +kernel
theorem dX8_copy_16 : decode cX8_copy 16 = .ok (.bipush (-2), 2) := by decide +kernel
theorem dX8_copy_18 : decode cX8_copy 18 = .ok (.ireturn, 1) := by decide +kernel
theorem dX8_copy_19 : decode cX8_copy 19 = .ok (.aload_n 0, 1) := by decide +kernel
theorem dX8_copy_20 : decode cX8_copy 20 = .ok (.getfield 22, 3) := by decide +kernel
theorem dX8_copy_23 : decode cX8_copy 23 = .ok (.iload_n 1, 1) := by decide +kernel
theorem dX8_copy_24 : decode cX8_copy 24 = .ok (.baload, 1) := by decide +kernel
theorem dX8_copy_25 : decode cX8_copy 25 = .ok (.ifCond .eq 12, 3) := by decide +kernel
theorem dX8_copy_28 : decode cX8_copy 28 = .ok (.aload_n 0, 1) := by decide +kernel
theorem dX8_copy_29 : decode cX8_copy 29 = .ok (.getfield 22, 3) := by decide +kernel
theorem dX8_copy_32 : decode cX8_copy 32 = .ok (.iload_n 3, 1) := by decide +kernel
theorem dX8_copy_33 : decode cX8_copy 33 = .ok (.baload, 1) := by decide +kernel
theorem dX8_copy_34 : decode cX8_copy 34 = .ok (.ifCond .ne 9, 3) := by decide +kernel
theorem dX8_copy_37 : decode cX8_copy 37 = .ok (.aload_n 0, 1) := by decide +kernel
theorem dX8_copy_38 : decode cX8_copy 38 = .ok (.iconst 1, 1) := by decide +kernel
theorem dX8_copy_39 : decode cX8_copy 39 = .ok (.invokevirtual 141, 3) := by decide +kernel
theorem dX8_copy_42 : decode cX8_copy 42 = .ok (.ireturn, 1) := by decide +kernel
theorem dX8_copy_43 : decode cX8_copy 43 = .ok (.aload_n 0, 1) := by decide +kernel
theorem dX8_copy_44 : decode cX8_copy 44 = .ok (.getfield 26, 3) := by decide +kernel
theorem dX8_copy_47 : decode cX8_copy 47 = .ok (.iload_n 1, 1) := by decide +kernel
theorem dX8_copy_48 : decode cX8_copy 48 = .ok (.iaload, 1) := by decide +kernel
theorem dX8_copy_49 : decode cX8_copy 49 = .ok (.aload_n 0, 1) := by decide +kernel
theorem dX8_copy_50 : decode cX8_copy 50 = .ok (.getfield 26, 3) := by decide +kernel
theorem dX8_copy_53 : decode cX8_copy 53 = .ok (.iload_n 3, 1) := by decide +kernel
theorem dX8_copy_54 : decode cX8_copy 54 = .ok (.iaload, 1) := by decide +kernel
theorem dX8_copy_55 : decode cX8_copy 55 = .ok (.if_icmp .eq 9, 3) := by decide +kernel
theorem dX8_copy_58 : decode cX8_copy 58 = .ok (.aload_n 0, 1) := by decide +kernel
theorem dX8_copy_59 : decode cX8_copy 59 = .ok (.iconst 4, 1) := by decide +kernel
theorem dX8_copy_60 : decode cX8_copy 60 = .ok (.invokevirtual 141, 3) := by decide +kernel
theorem dX8_copy_63 : decode cX8_copy 63 = .ok (.ireturn, 1) := by decide +kernel
theorem dX8_copy_64 : decode cX8_copy 64 = .ok (.iload_n 2, 1) := by decide +kernel
theorem dX8_copy_65 : decode cX8_copy 65 = .ok (.ifCond .lt 48, 3) := by decide +kernel
theorem dX8_copy_68 : decode cX8_copy 68 = .ok (.iload 4, 2) := by decide +kernel
theorem dX8_copy_70 : decode cX8_copy 70 = .ok (.ifCond .lt 43, 3) := by decide +kernel
theorem dX8_copy_73 : decode cX8_copy 73 = .ok (.iload 5, 2) := by decide +kernel
theorem dX8_copy_75 : decode cX8_copy 75 = .ok (.ifCond .lt 38, 3) := by decide +kernel
theorem dX8_copy_78 : decode cX8_copy 78 = .ok (.iload_n 2, 1) := by decide +kernel
theorem dX8_copy_79 : decode cX8_copy 79 = .ok (.i2l, 1) := by decide +kernel
theorem dX8_copy_80 : decode cX8_copy 80 = .ok (.iload 5, 2) := by decide +kernel
theorem dX8_copy_82 : decode cX8_copy 82 = .ok (.i2l, 1) := by decide +kernel
theorem dX8_copy_83 : decode cX8_copy 83 = .ok (.ladd, 1) := by decide +kernel
theorem dX8_copy_84 : decode cX8_copy 84 = .ok (.aload_n 0, 1) := by decide +kernel
theorem dX8_copy_85 : decode cX8_copy 85 = .ok (.getfield 29, 3) := by decide +kernel
theorem dX8_copy_88 : decode cX8_copy 88 = .ok (.iload_n 1, 1) := by decide +kernel
theorem dX8_copy_89 : decode cX8_copy 89 = .ok (.iaload, 1) := by decide +kernel
theorem dX8_copy_90 : decode cX8_copy 90 = .ok (.i2l, 1) := by decide +kernel
theorem dX8_copy_91 : decode cX8_copy 91 = .ok (.lcmp, 1) := by decide +kernel
theorem dX8_copy_92 : decode cX8_copy 92 = .ok (.ifCond .gt 21, 3) := by decide +kernel
theorem dX8_copy_95 : decode cX8_copy 95 = .ok (.iload 4, 2) := by decide +kernel
theorem dX8_copy_97 : decode cX8_copy 97 = .ok (.i2l, 1) := by decide +kernel
theorem dX8_copy_98 : decode cX8_copy 98 = .ok (.iload 5, 2) := by decide +kernel
theorem dX8_copy_100 : decode cX8_copy 100 = .ok (.i2l, 1) := by decide +kernel
theorem dX8_copy_101 : decode cX8_copy 101 = .ok (.ladd, 1) := by decide +kernel
theorem dX8_copy_102 : decode cX8_copy 102 = .ok (.aload_n 0, 1) := by decide +kernel
theorem dX8_copy_103 : decode cX8_copy 103 = .ok (.getfield 29, 3) := by decide +kernel
theorem dX8_copy_106 : decode cX8_copy 106 = .ok (.iload_n 3, 1) := by decide +kernel
theorem dX8_copy_107 : decode cX8_copy 107 = .ok (.iaload, 1) := by decide +kernel
theorem dX8_copy_108 : decode cX8_copy 108 = .ok (.i2l, 1) := by decide +kernel
theorem dX8_copy_109 : decode cX8_copy 109 = .ok (.lcmp, 1) := by decide +kernel
theorem dX8_copy_110 : decode cX8_copy 110 = .ok (.ifCond .le 9, 3) := by decide +kernel
theorem dX8_copy_113 : decode cX8_copy 113 = .ok (.aload_n 0, 1) := by decide +kernel
theorem dX8_copy_114 : decode cX8_copy 114 = .ok (.iconst 2, 1) := by decide +kernel
theorem dX8_copy_115 : decode cX8_copy 115 = .ok (.invokevirtual 141, 3) := by decide +kernel
theorem dX8_copy_118 : decode cX8_copy 118 = .ok (.ireturn, 1) := by decide +kernel
theorem dX8_copy_119 : decode cX8_copy 119 = .ok (.iconst 0, 1) := by decide +kernel
theorem dX8_copy_120 : decode cX8_copy 120 = .ok (.istore 6, 2) := by decide +kernel
theorem dX8_copy_122 : decode cX8_copy 122 = .ok (.iload 6, 2) := by decide +kernel
theorem dX8_copy_124 : decode cX8_copy 124 = .ok (.iload 5, 2) := by decide +kernel
theorem dX8_copy_126 : decode cX8_copy 126 = .ok (.if_icmp .ge 30, 3) := by decide +kernel
theorem dX8_copy_129 : decode cX8_copy 129 = .ok (.aload_n 0, 1) := by decide +kernel
theorem dX8_copy_130 : decode cX8_copy 130 = .ok (.getfield 35, 3) := by decide +kernel
theorem dX8_copy_133 : decode cX8_copy 133 = .ok (.iload 6, 2) := by decide +kernel
theorem dX8_copy_135 : decode cX8_copy 135 = .ok (.aload_n 0, 1) := by decide +kernel
theorem dX8_copy_136 : decode cX8_copy 136 = .ok (.getfield 32, 3) := by decide +kernel
theorem dX8_copy_139 : decode cX8_copy 139 = .ok (.bipush 100, 2) := by decide +kernel
theorem dX8_copy_141 : decode cX8_copy 141 = .ok (.iload_n 1, 1) := by decide +kernel
theorem dX8_copy_142 : decode cX8_copy 142 = .ok (.imul, 1) := by decide +kernel
theorem dX8_copy_143 : decode cX8_copy 143 = .ok (.iload_n 2, 1) := by decide +kernel
theorem dX8_copy_144 : decode cX8_copy 144 = .ok (.iadd, 1) := by decide +kernel
theorem dX8_copy_145 : decode cX8_copy 145 = .ok (.iload 6, 2) := by decide +kernel
theorem dX8_copy_147 : decode cX8_copy 147 = .ok (.iadd, 1) := by decide +kernel
theorem dX8_copy_148 : decode cX8_copy 148 = .ok (.iaload, 1) := by decide +kernel
theorem dX8_copy_149 : decode cX8_copy 149 = .ok (.iastore, 1) := by decide +kernel
theorem dX8_copy_150 : decode cX8_copy 150 = .ok (.iinc 6 1, 3) := by decide +kernel
theorem dX8_copy_153 : decode cX8_copy 153 = .ok (.goto (-31), 3) := by decide +kernel
theorem dX8_copy_156 : decode cX8_copy 156 = .ok (.iconst 0, 1) := by decide +kernel
theorem dX8_copy_157 : decode cX8_copy 157 = .ok (.istore 6, 2) := by decide +kernel
theorem dX8_copy_159 : decode cX8_copy 159 = .ok (.iload 6, 2) := by decide +kernel
theorem dX8_copy_161 : decode cX8_copy 161 = .ok (.iload 5, 2) := by decide +kernel
theorem dX8_copy_163 : decode cX8_copy 163 = .ok (.if_icmp .ge 31, 3) := by decide +kernel
theorem dX8_copy_166 : decode cX8_copy 166 = .ok (.aload_n 0, 1) := by decide +kernel
theorem dX8_copy_167 : decode cX8_copy 167 = .ok (.getfield 32, 3) := by decide +kernel
theorem dX8_copy_170 : decode cX8_copy 170 = .ok (.bipush 100, 2) := by decide +kernel
theorem dX8_copy_172 : decode cX8_copy 172 = .ok (.iload_n 3, 1) := by decide +kernel
theorem dX8_copy_173 : decode cX8_copy 173 = .ok (.imul, 1) := by decide +kernel
theorem dX8_copy_174 : decode cX8_copy 174 = .ok (.iload 4, 2) := by decide +kernel
theorem dX8_copy_176 : decode cX8_copy 176 = .ok (.iadd, 1) := by decide +kernel
theorem dX8_copy_177 : decode cX8_copy 177 = .ok (.iload 6, 2) := by decide +kernel
theorem dX8_copy_179 : decode cX8_copy 179 = .ok (.iadd, 1) := by decide +kernel
theorem dX8_copy_180 : decode cX8_copy 180 = .ok (.aload_n 0, 1) := by decide +kernel
theorem dX8_copy_181 : decode cX8_copy 181 = .ok (.getfield 35, 3) := by decide +kernel
theorem dX8_copy_184 : decode cX8_copy 184 = .ok (.iload 6, 2) := by decide +kernel
theorem dX8_copy_186 : decode cX8_copy 186 = .ok (.iaload, 1) := by decide +kernel
theorem dX8_copy_187 : decode cX8_copy 187 = .ok (.iastore, 1) := by decide +kernel
theorem dX8_copy_188 : decode cX8_copy 188 = .ok (.iinc 6 1, 3) := by decide +kernel
theorem dX8_copy_191 : decode cX8_copy 191 = .ok (.goto (-32), 3) := by decide +kernel
theorem dX8_copy_194 : decode cX8_copy 194 = .ok (.iconst 1, 1) := by decide +kernel
theorem dX8_copy_195 : decode cX8_copy 195 = .ok (.ireturn, 1) := by decide +kernel
theorem dX8_flag_0 : decode cX8_flag 0 = .ok (.aload_n 0, 1) := by decide +kernel
theorem dX8_flag_1 : decode cX8_flag 1 = .ok (.iload_n 1, 1) := by decide +kernel
theorem dX8_flag_2 : decode cX8_flag 2 = .ok (.invokevirtual 129, 3) := by decide +kernel
theorem dX8_flag_5 : decode cX8_flag 5 = .ok (.ifCond .eq 18, 3) := by decide +kernel
theorem dX8_flag_8 : decode cX8_flag 8 = .ok (.iload_n 2, 1) := by decide +kernel
theorem dX8_flag_9 : decode cX8_flag 9 = .ok (.ifCond .lt 14, 3) := by decide +kernel
theorem dX8_flag_12 : decode cX8_flag 12 = .ok (.iload_n 2, 1) := by decide +kernel
theorem dX8_flag_13 : decode cX8_flag 13 = .ok (.iload_n 3, 1) := by decide +kernel
theorem dX8_flag_14 : decode cX8_flag 14 = .ok (.if_icmp .gt 9, 3) := by decide +kernel
theorem dX8_flag_17 : decode cX8_flag 17 = .ok (.iload_n 3, 1) := by decide +kernel
theorem dX8_flag_18 : decode cX8_flag 18 = .ok (.bipush 99, 2) := by decide +kernel
theorem dX8_flag_20 : decode cX8_flag 20 = .ok (.if_icmp .le 6, 3) := by decide +kernel
theorem dX8_flag_23 : decode cX8_flag 23 = .ok (.bipush (-2), 2) := by decide +kernel
theorem dX8_flag_25 : decode cX8_flag 25 = .ok (.ireturn, 1) := by decide +kernel
theorem dX8_flag_26 : decode cX8_flag 26 = .ok (.aload_n 0, 1) := by decide +kernel
theorem dX8_flag_27 : decode cX8_flag 27 = .ok (.getfield 150, 3) := by decide +kernel
theorem dX8_flag_30 : decode cX8_flag 30 = .ok (.bipush 40, 2) := by decide +kernel
theorem dX8_flag_32 : decode cX8_flag 32 = .ok (.if_icmp .ne 6, 3) := by decide +kernel
theorem dX8_flag_35 : decode cX8_flag 35 = .ok (.bipush (-3), 2) := by decide +kernel
theorem dX8_flag_37 : decode cX8_flag 37 = .ok (.ireturn, 1) := by decide +kernel
theorem dX8_flag_38 : decode cX8_flag 38 = .ok (.aload_n 0, 1) := by decide +kernel
theorem dX8_flag_39 : decode cX8_flag 39 = .ok (.getfield 38, 3) := by decide +kernel
theorem dX8_flag_42 : decode cX8_flag 42 = .ok (.aload_n 0, 1) := by decide +kernel
theorem dX8_flag_43 : decode cX8_flag 43 = .ok (.getfield 150, 3) := by decide +kernel
theorem dX8_flag_46 : decode cX8_flag 46 = .ok (.iload_n 1, 1) := by decide +kernel
theorem dX8_flag_47 : decode cX8_flag 47 = .ok (.iastore, 1) := by decide +kernel
theorem dX8_flag_48 : decode cX8_flag 48 = .ok (.aload_n 0, 1) := by decide +kernel
theorem dX8_flag_49 : decode cX8_flag 49 = .ok (.getfield 41, 3) := by decide +kernel
theorem dX8_flag_52 : decode cX8_flag 52 = .ok (.aload_n 0, 1) := by decide +kernel
theorem dX8_flag_53 : decode cX8_flag 53 = .ok (.getfield 150, 3) := by decide +kernel
theorem dX8_flag_56 : decode cX8_flag 56 = .ok (.iload_n 2, 1) := by decide +kernel
theorem dX8_flag_57 : decode cX8_flag 57 = .ok (.iastore, 1) := by decide +kernel
theorem dX8_flag_58 : decode cX8_flag 58 = .ok (.aload_n 0, 1) := by decide +kernel
theorem dX8_flag_59 : decode cX8_flag 59 = .ok (.getfield 44, 3) := by decide +kernel
theorem dX8_flag_62 : decode cX8_flag 62 = .ok (.aload_n 0, 1) := by decide +kernel
theorem dX8_flag_63 : decode cX8_flag 63 = .ok (.getfield 150, 3) := by decide +kernel
theorem dX8_flag_66 : decode cX8_flag 66 = .ok (.iload_n 3, 1) := by decide +kernel
theorem dX8_flag_67 : decode cX8_flag 67 = .ok (.iastore, 1) := by decide +kernel
theorem dX8_flag_68 : decode cX8_flag 68 = .ok (.aload_n 0, 1) := by decide +kernel
theorem dX8_flag_69 : decode cX8_flag 69 = .ok (.dup, 1) := by decide +kernel
theorem dX8_flag_70 : decode cX8_flag 70 = .ok (.getfield 150, 3) := by decide +kernel
theorem dX8_flag_73 : decode cX8_flag 73 = .ok (.iconst 1, 1) := by decide +kernel
theorem dX8_flag_74 : decode cX8_flag 74 = .ok (.iadd, 1) := by decide +kernel
theorem dX8_flag_75 : decode cX8_flag 75 = .ok (.putfield 150, 3) := by decide +kernel
theorem dX8_flag_78 : decode cX8_flag 78 = .ok (.aload_n 0, 1) := by decide +kernel
theorem dX8_flag_79 : decode cX8_flag 79 = .ok (.getfield 150, 3) := by decide +kernel
theorem dX8_flag_82 : decode cX8_flag 82 = .ok (.ireturn, 1) := by decide +kernel
theorem dX8_unflag_0 : decode cX8_unflag 0 = .ok (.aload_n 0, 1) := by decide +kernel
theorem dX8_unflag_1 : decode cX8_unflag 1 = .ok (.getfield 150, 3) := by decide +kernel
theorem dX8_unflag_4 : decode cX8_unflag 4 = .ok (.ifCond .ne 6, 3) := by decide +kernel
theorem dX8_unflag_7 : decode cX8_unflag 7 = .ok (.bipush (-4), 2) := by decide +kernel
theorem dX8_unflag_9 : decode cX8_unflag 9 = .ok (.ireturn, 1) := by decide +kernel
theorem dX8_unflag_10 : decode cX8_unflag 10 = .ok (.aload_n 0, 1) := by decide +kernel
theorem dX8_unflag_11 : decode cX8_unflag 11 = .ok (.dup, 1) := by decide +kernel
theorem dX8_unflag_12 : decode cX8_unflag 12 = .ok (.getfield 150, 3) := by decide +kernel
theorem dX8_unflag_15 : decode cX8_unflag 15 = .ok (.iconst 1, 1) := by decide +kernel
theorem dX8_unflag_16 : decode cX8_unflag 16 = .ok (.isub, 1) := by decide +kernel
theorem dX8_unflag_17 : decode cX8_unflag 17 = .ok (.putfield 150, 3) := by decide +kernel
theorem dX8_unflag_20 : decode cX8_unflag 20 = .ok (.aload_n 0, 1) := by decide +kernel
theorem dX8_unflag_21 : decode cX8_unflag 21 = .ok (.getfield 150, 3) := by decide +kernel
theorem dX8_unflag_24 : decode cX8_unflag 24 = .ok (.ireturn, 1) := by decide +kernel
theorem dX8_isSample_0 : decode cX8_isSample 0 = .ok (.aload_n 0, 1) := by decide +kernel
theorem dX8_isSample_1 : decode cX8_isSample 1 = .ok (.getfield 22, 3) := by decide +kernel
theorem dX8_isSample_4 : decode cX8_isSample 4 = .ok (.iload_n 1, 1) := by decide +kernel
theorem dX8_isSample_5 : decode cX8_isSample 5 = .ok (.baload, 1) := by decide +kernel
theorem dX8_isSample_6 : decode cX8_isSample 6 = .ok (.ifCond .eq 13, 3) := by decide +kernel
theorem dX8_isSample_9 : decode cX8_isSample 9 = .ok (.iload_n 2, 1) := by decide +kernel
theorem dX8_isSample_10 : decode cX8_isSample 10 = .ok (.aload_n 0, 1) := by decide +kernel
theorem dX8_isSample_11 : decode cX8_isSample 11 = .ok (.getfield 29, 3) := by decide +kernel
theorem dX8_isSample_14 : decode cX8_isSample 14 = .ok (.iload_n 1, 1) := by decide +kernel
theorem dX8_isSample_15 : decode cX8_isSample 15 = .ok (.iaload, 1) := by decide +kernel
theorem dX8_isSample_16 : decode cX8_isSample 16 = .ok (.if_icmp .lt 5, 3) := by decide +kernel
theorem dX8_isSample_19 : decode cX8_isSample 19 = .ok (.iconst 0, 1) := by decide +kernel
theorem dX8_isSample_20 : decode cX8_isSample 20 = .ok (.ireturn, 1) := by decide +kernel
theorem dX8_isSample_21 : decode cX8_isSample 21 = .ok (.iconst 0, 1) := by decide +kernel
theorem dX8_isSample_22 : decode cX8_isSample 22 = .ok (.istore_n 3, 1) := by decide +kernel
theorem dX8_isSample_23 : decode cX8_isSample 23 = .ok (.iload_n 3, 1) := by decide +kernel
theorem dX8_isSample_24 : decode cX8_isSample 24 = .ok (.aload_n 0, 1) := by decide +kernel
theorem dX8_isSample_25 : decode cX8_isSample 25 = .ok (.getfield 150, 3) := by decide +kernel
theorem dX8_isSample_28 : decode cX8_isSample 28 = .ok (.if_icmp .ge 43, 3) := by decide +kernel
theorem dX8_isSample_31 : decode cX8_isSample 31 = .ok (.aload_n 0, 1) := by decide +kernel
theorem dX8_isSample_32 : decode cX8_isSample 32 = .ok (.getfield 38, 3) := by decide +kernel
theorem dX8_isSample_35 : decode cX8_isSample 35 = .ok (.iload_n 3, 1) := by decide +kernel
theorem dX8_isSample_36 : decode cX8_isSample 36 = .ok (.iaload, 1) := by decide +kernel
theorem dX8_isSample_37 : decode cX8_isSample 37 = .ok (.iload_n 1, 1) := by decide +kernel
theorem dX8_isSample_38 : decode cX8_isSample 38 = .ok (.if_icmp .ne 27, 3) := by decide +kernel
theorem dX8_isSample_41 : decode cX8_isSample 41 = .ok (.iload_n 2, 1) := by decide +kernel
theorem dX8_isSample_42 : decode cX8_isSample 42 = .ok (.i2l, 1) := by decide +kernel
theorem dX8_isSample_43 : decode cX8_isSample 43 = .ok (.aload_n 0, 1) := by decide +kernel
theorem dX8_isSample_44 : decode cX8_isSample 44 = .ok (.getfield 41, 3) := by decide +kernel
theorem dX8_isSample_47 : decode cX8_isSample 47 = .ok (.iload_n 3, 1) := by decide +kernel
theorem dX8_isSample_48 : decode cX8_isSample 48 = .ok (.iaload, 1) := by decide +kernel
theorem dX8_isSample_49 : decode cX8_isSample 49 = .ok (.i2l, 1) := by decide +kernel
theorem dX8_isSample_50 : decode cX8_isSample 50 = .ok (.aload_n 0, 1) := by decide +kernel
theorem dX8_isSample_51 : decode cX8_isSample 51 = .ok (.getfield 44, 3) := by decide +kernel
theorem dX8_isSample_54 : decode cX8_isSample 54 = .ok (.iload_n 3, 1) := by decide +kernel
theorem dX8_isSample_55 : decode cX8_isSample 55 = .ok (.iaload, 1) := by decide +kernel
theorem dX8_isSample_56 : decode cX8_isSample 56 = .ok (.i2l, 1) := by decide +kernel
theorem dX8_isSample_57 : decode cX8_isSample 57 = .ok (.invokestatic 121, 3) := by decide +kernel
theorem dX8_isSample_60 : decode cX8_isSample 60 = .ok (.ifCond .eq 5, 3) := by decide +kernel
theorem dX8_isSample_63 : decode cX8_isSample 63 = .ok (.iconst 0, 1) := by decide +kernel
theorem dX8_isSample_64 : decode cX8_isSample 64 = .ok (.ireturn, 1) := by decide +kernel
theorem dX8_isSample_65 : decode cX8_isSample 65 = .ok (.iinc 3 1, 3) := by decide +kernel
theorem dX8_isSample_68 : decode cX8_isSample 68 = .ok (.goto (-45), 3) := by decide +kernel
theorem dX8_isSample_71 : decode cX8_isSample 71 = .ok (.iconst 1, 1) := by decide +kernel
theorem dX8_isSample_72 : decode cX8_isSample 72 = .ok (.ireturn, 1) := by decide +kernel
theorem dX8_sampleAt_0 : decode cX8_sampleAt 0 = .ok (.aload_n 0, 1) := by decide +kernel
theorem dX8_sampleAt_1 : decode cX8_sampleAt 1 = .ok (.getfield 32, 3) := by decide +kernel
theorem dX8_sampleAt_4 : decode cX8_sampleAt 4 = .ok (.bipush 100, 2) := by decide +kernel
theorem dX8_sampleAt_6 : decode cX8_sampleAt 6 = .ok (.iload_n 1, 1) := by decide +kernel
theorem dX8_sampleAt_7 : decode cX8_sampleAt 7 = .ok (.imul, 1) := by decide +kernel
theorem dX8_sampleAt_8 : decode cX8_sampleAt 8 = .ok (.iload_n 2, 1) := by decide +kernel
theorem dX8_sampleAt_9 : decode cX8_sampleAt 9 = .ok (.iadd, 1) := by decide +kernel
theorem dX8_sampleAt_10 : decode cX8_sampleAt 10 = .ok (.iaload, 1) := by decide +kernel
theorem dX8_sampleAt_11 : decode cX8_sampleAt 11 = .ok (.istore_n 3, 1) := by decide +kernel
theorem dX8_sampleAt_12 : decode cX8_sampleAt 12 = .ok (.iload_n 3, 1) := by decide +kernel
theorem dX8_sampleAt_13 : decode cX8_sampleAt 13 = .ok (.sipush 500, 3) := by decide +kernel
theorem dX8_sampleAt_16 : decode cX8_sampleAt 16 = .ok (.if_icmp .le 9, 3) := by decide +kernel
theorem dX8_sampleAt_19 : decode cX8_sampleAt 19 = .ok (.ldc2_w 153, 3) := by decide +kernel
theorem dX8_sampleAt_22 : decode cX8_sampleAt 22 = .ok (.goto 18, 3) := by decide +kernel
theorem dX8_sampleAt_25 : decode cX8_sampleAt 25 = .ok (.iload_n 3, 1) := by decide +kernel
theorem dX8_sampleAt_26 : decode cX8_sampleAt 26 = .ok (.sipush (-500), 3) := by decide +kernel
theorem dX8_sampleAt_29 : decode cX8_sampleAt 29 = .ok (.if_icmp .ge 9, 3) := by decide +kernel
theorem dX8_sampleAt_32 : decode cX8_sampleAt 32 = .ok (.ldc2_w 155, 3) := by decide +kernel
theorem dX8_sampleAt_35 : decode cX8_sampleAt 35 = .ok (.goto 5, 3) := by decide +kernel
theorem dX8_sampleAt_38 : decode cX8_sampleAt 38 = .ok (.iload_n 3, 1) := by decide +kernel
theorem dX8_sampleAt_39 : decode cX8_sampleAt 39 = .ok (.i2l, 1) := by decide +kernel
theorem dX8_sampleAt_40 : decode cX8_sampleAt 40 = .ok (.lreturn, 1) := by decide +kernel
theorem dX8_multiply_0 : decode cX8_multiply 0 = .ok (.aload_n 0, 1) := by decide +kernel
theorem dX8_multiply_1 : decode cX8_multiply 1 = .ok (.iconst 0, 1) := by decide +kernel
theorem dX8_multiply_2 : decode cX8_multiply 2 = .ok (.putfield 157, 3) := by decide +kernel
theorem dX8_multiply_5 : decode cX8_multiply 5 = .ok (.lconst 0, 1) := by decide +kernel
theorem dX8_multiply_6 : decode cX8_multiply 6 = .ok (.lstore 5, 2) := by decide +kernel
theorem dX8_multiply_8 : decode cX8_multiply 8 = .ok (.iconst 0, 1) := by decide +kernel
theorem dX8_multiply_9 : decode cX8_multiply 9 = .ok (.istore 7, 2) := by decide +kernel
theorem dX8_multiply_11 : decode cX8_multiply 11 = .ok (.iload 7, 2) := by decide +kernel
theorem dX8_multiply_13 : decode cX8_multiply 13 = .ok (.bipush 100, 2) := by decide +kernel
theorem dX8_multiply_15 : decode cX8_multiply 15 = .ok (.if_icmp .ge 69, 3) := by decide +kernel
theorem dX8_multiply_18 : decode cX8_multiply 18 = .ok (.aload_n 0, 1) := by decide +kernel
theorem dX8_multiply_19 : decode cX8_multiply 19 = .ok (.iload_n 1, 1) := by decide +kernel
theorem dX8_multiply_20 : decode cX8_multiply 20 = .ok (.iload 7, 2) := by decide +kernel
theorem dX8_multiply_22 : decode cX8_multiply 22 = .ok (.iload_n 2, 1) := by decide +kernel
theorem dX8_multiply_23 : decode cX8_multiply 23 = .ok (.iadd, 1) := by decide +kernel
theorem dX8_multiply_24 : decode cX8_multiply 24 = .ok (.invokevirtual 160, 3) := by decide +kernel
theorem dX8_multiply_27 : decode cX8_multiply 27 = .ok (.ifCond .eq 51, 3) := by decide +kernel
theorem dX8_multiply_30 : decode cX8_multiply 30 = .ok (.aload_n 0, 1) := by decide +kernel
theorem dX8_multiply_31 : decode cX8_multiply 31 = .ok (.iload_n 3, 1) := by decide +kernel
theorem dX8_multiply_32 : decode cX8_multiply 32 = .ok (.iload 7, 2) := by decide +kernel
theorem dX8_multiply_34 : decode cX8_multiply 34 = .ok (.iload 4, 2) := by decide +kernel
theorem dX8_multiply_36 : decode cX8_multiply 36 = .ok (.iadd, 1) := by decide +kernel
theorem dX8_multiply_37 : decode cX8_multiply 37 = .ok (.invokevirtual 160, 3) := by decide +kernel
theorem dX8_multiply_40 : decode cX8_multiply 40 = .ok (.ifCond .eq 38, 3) := by decide +kernel
theorem dX8_multiply_43 : decode cX8_multiply 43 = .ok (.aload_n 0, 1) := by decide +kernel
theorem dX8_multiply_44 : decode cX8_multiply 44 = .ok (.dup, 1) := by decide +kernel
theorem dX8_multiply_45 : decode cX8_multiply 45 = .ok (.getfield 157, 3) := by decide +kernel
theorem dX8_multiply_48 : decode cX8_multiply 48 = .ok (.iconst 1, 1) := by decide +kernel
theorem dX8_multiply_49 : decode cX8_multiply 49 = .ok (.iadd, 1) := by decide +kernel
theorem dX8_multiply_50 : decode cX8_multiply 50 = .ok (.putfield 157, 3) := by decide +kernel
theorem dX8_multiply_53 : decode cX8_multiply 53 = .ok (.lload 5, 2) := by decide +kernel
theorem dX8_multiply_55 : decode cX8_multiply 55 = .ok (.aload_n 0, 1) := by decide +kernel
theorem dX8_multiply_56 : decode cX8_multiply 56 = .ok (.iload_n 1, 1) := by decide +kernel
theorem dX8_multiply_57 : decode cX8_multiply 57 = .ok (.iload 7, 2) := by decide +kernel
theorem dX8_multiply_59 : decode cX8_multiply 59 = .ok (.iload_n 2, 1) := by decide +kernel
theorem dX8_multiply_60 : decode cX8_multiply 60 = .ok (.iadd, 1) := by decide +kernel
theorem dX8_multiply_61 : decode cX8_multiply 61 = .ok (.invokevirtual 164, 3) := by decide +kernel
theorem dX8_multiply_64 : decode cX8_multiply 64 = .ok (.aload_n 0, 1) := by decide +kernel
theorem dX8_multiply_65 : decode cX8_multiply 65 = .ok (.iload_n 3, 1) := by decide +kernel
theorem dX8_multiply_66 : decode cX8_multiply 66 = .ok (.iload 7, 2) := by decide +kernel
theorem dX8_multiply_68 : decode cX8_multiply 68 = .ok (.iload 4, 2) := by decide +kernel
theorem dX8_multiply_70 : decode cX8_multiply 70 = .ok (.iadd, 1) := by decide +kernel
theorem dX8_multiply_71 : decode cX8_multiply 71 = .ok (.invokevirtual 164, 3) := by decide +kernel
theorem dX8_multiply_74 : decode cX8_multiply 74 = .ok (.lmul, 1) := by decide +kernel
theorem dX8_multiply_75 : decode cX8_multiply 75 = .ok (.ladd, 1) := by decide +kernel
theorem dX8_multiply_76 : decode cX8_multiply 76 = .ok (.lstore 5, 2) := by decide +kernel
theorem dX8_multiply_78 : decode cX8_multiply 78 = .ok (.iinc 7 1, 3) := by decide +kernel
theorem dX8_multiply_81 : decode cX8_multiply 81 = .ok (.goto (-70), 3) := by decide +kernel
theorem dX8_multiply_84 : decode cX8_multiply 84 = .ok (.lload 5, 2) := by decide +kernel
theorem dX8_multiply_86 : decode cX8_multiply 86 = .ok (.aload_n 0, 1) := by decide +kernel
theorem dX8_multiply_87 : decode cX8_multiply 87 = .ok (.getfield 19, 3) := by decide +kernel
theorem dX8_multiply_90 : decode cX8_multiply 90 = .ok (.iload_n 1, 1) := by decide +kernel
theorem dX8_multiply_91 : decode cX8_multiply 91 = .ok (.iaload, 1) := by decide +kernel
theorem dX8_multiply_92 : decode cX8_multiply 92 = .ok (.i2l, 1) := by decide +kernel
theorem dX8_multiply_93 : decode cX8_multiply 93 = .ok (.lmul, 1) := by decide +kernel
theorem dX8_multiply_94 : decode cX8_multiply 94 = .ok (.aload_n 0, 1) := by decide +kernel
theorem dX8_multiply_95 : decode cX8_multiply 95 = .ok (.getfield 19, 3) := by decide +kernel
theorem dX8_multiply_98 : decode cX8_multiply 98 = .ok (.iload_n 3, 1) := by decide +kernel
theorem dX8_multiply_99 : decode cX8_multiply 99 = .ok (.iaload, 1) := by decide +kernel
theorem dX8_multiply_100 : decode cX8_multiply 100 = .ok (.i2l, 1) := by decide +kernel
theorem dX8_multiply_101 : decode cX8_multiply 101 = .ok (.lmul, 1) := by decide +kernel
theorem dX8_multiply_102 : decode cX8_multiply 102 = .ok (.lreturn, 1) := by decide +kernel
theorem dX8_productOf_0 : decode cX8_productOf 0 = .ok (.aload_n 0, 1) := by decide +kernel
theorem dX8_productOf_1 : decode cX8_productOf 1 = .ok (.iload_n 1, 1) := by decide +kernel
theorem dX8_productOf_2 : decode cX8_productOf 2 = .ok (.aload_n 0, 1) := by decide +kernel
theorem dX8_productOf_3 : decode cX8_productOf 3 = .ok (.getfield 16, 3) := by decide +kernel
theorem dX8_productOf_6 : decode cX8_productOf 6 = .ok (.iload_n 1, 1) := by decide +kernel
theorem dX8_productOf_7 : decode cX8_productOf 7 = .ok (.iaload, 1) := by decide +kernel
theorem dX8_productOf_8 : decode cX8_productOf 8 = .ok (.iload_n 2, 1) := by decide +kernel
theorem dX8_productOf_9 : decode cX8_productOf 9 = .ok (.aload_n 0, 1) := by decide +kernel
theorem dX8_productOf_10 : decode cX8_productOf 10 = .ok (.getfield 16, 3) := by decide +kernel
theorem dX8_productOf_13 : decode cX8_productOf 13 = .ok (.iload_n 2, 1) := by decide +kernel
theorem dX8_productOf_14 : decode cX8_productOf 14 = .ok (.iaload, 1) := by decide +kernel
theorem dX8_productOf_15 : decode cX8_productOf 15 = .ok (.invokevirtual 168, 3) := by decide +kernel
theorem dX8_productOf_18 : decode cX8_productOf 18 = .ok (.lreturn, 1) := by decide +kernel
theorem dX8_ticks_0 : decode cX8_ticks 0 = .ok (.aload_n 0, 1) := by decide +kernel
theorem dX8_ticks_1 : decode cX8_ticks 1 = .ok (.iload_n 1, 1) := by decide +kernel
theorem dX8_ticks_2 : decode cX8_ticks 2 = .ok (.invokevirtual 129, 3) := by decide +kernel
theorem dX8_ticks_5 : decode cX8_ticks 5 = .ok (.ifCond .eq 11, 3) := by decide +kernel
theorem dX8_ticks_8 : decode cX8_ticks 8 = .ok (.aload_n 0, 1) := by decide +kernel
theorem dX8_ticks_9 : decode cX8_ticks 9 = .ok (.iload_n 2, 1) := by decide +kernel
theorem dX8_ticks_10 : decode cX8_ticks 10 = .ok (.invokevirtual 129, 3) := by decide +kernel
theorem dX8_ticks_13 : decode cX8_ticks 13 = .ok (.ifCond .ne 6, 3) := by decide +kernel
theorem dX8_ticks_16 : decode cX8_ticks 16 = .ok (.bipush (-2), 2) := by decide +kernel
theorem dX8_ticks_18 : decode cX8_ticks 18 = .ok (.ireturn, 1) := by decide +kernel
theorem dX8_ticks_19 : decode cX8_ticks 19 = .ok (.aload_n 0, 1) := by decide +kernel
theorem dX8_ticks_20 : decode cX8_ticks 20 = .ok (.iload_n 1, 1) := by decide +kernel
theorem dX8_ticks_21 : decode cX8_ticks 21 = .ok (.iload_n 2, 1) := by decide +kernel
theorem dX8_ticks_22 : decode cX8_ticks 22 = .ok (.invokevirtual 172, 3) := by decide +kernel
theorem dX8_ticks_25 : decode cX8_ticks 25 = .ok (.lstore_n 3, 1) := by decide +kernel
theorem dX8_ticks_26 : decode cX8_ticks 26 = .ok (.aload_n 0, 1) := by decide +kernel
theorem dX8_ticks_27 : decode cX8_ticks 27 = .ok (.getfield 157, 3) := by decide +kernel
theorem dX8_ticks_30 : decode cX8_ticks 30 = .ok (.ireturn, 1) := by decide +kernel
theorem dX8_product_0 : decode cX8_product 0 = .ok (.aload_n 0, 1) := by decide +kernel
theorem dX8_product_1 : decode cX8_product 1 = .ok (.iload_n 1, 1) := by decide +kernel
theorem dX8_product_2 : decode cX8_product 2 = .ok (.invokevirtual 129, 3) := by decide +kernel
theorem dX8_product_5 : decode cX8_product 5 = .ok (.ifCond .eq 20, 3) := by decide +kernel
theorem dX8_product_8 : decode cX8_product 8 = .ok (.aload_n 0, 1) := by decide +kernel
theorem dX8_product_9 : decode cX8_product 9 = .ok (.iload_n 2, 1) := by decide +kernel
theorem dX8_product_10 : decode cX8_product 10 = .ok (.invokevirtual 129, 3) := by decide +kernel
theorem dX8_product_13 : decode cX8_product 13 = .ok (.ifCond .eq 12, 3) := by decide +kernel
theorem dX8_product_16 : decode cX8_product 16 = .ok (.aload_n 0, 1) := by decide +kernel
theorem dX8_product_17 : decode cX8_product 17 = .ok (.iload_n 1, 1) := by decide +kernel
theorem dX8_product_18 : decode cX8_product 18 = .ok (.iload_n 2, 1) := by decide +kernel
theorem dX8_product_19 : decode cX8_product 19 = .ok (.invokevirtual 172, 3) := by decide +kernel
theorem dX8_product_22 : decode cX8_product 22 = .ok (.goto 6, 3) := by decide +kernel
theorem dX8_product_25 : decode cX8_product 25 = .ok (.ldc2_w 175, 3) := by decide +kernel
theorem dX8_product_28 : decode cX8_product 28 = .ok (.lreturn, 1) := by decide +kernel
theorem dX8_delay_0 : decode cX8_delay 0 = .ok (.aload_n 0, 1) := by decide +kernel
theorem dX8_delay_1 : decode cX8_delay 1 = .ok (.iload_n 1, 1) := by decide +kernel
theorem dX8_delay_2 : decode cX8_delay 2 = .ok (.invokevirtual 129, 3) := by decide +kernel
theorem dX8_delay_5 : decode cX8_delay 5 = .ok (.ifCond .eq 11, 3) := by decide +kernel
theorem dX8_delay_8 : decode cX8_delay 8 = .ok (.aload_n 0, 1) := by decide +kernel
theorem dX8_delay_9 : decode cX8_delay 9 = .ok (.iload_n 2, 1) := by decide +kernel
theorem dX8_delay_10 : decode cX8_delay 10 = .ok (.invokevirtual 129, 3) := by decide +kernel
theorem dX8_delay_13 : decode cX8_delay 13 = .ok (.ifCond .ne 6, 3) := by decide +kernel
theorem dX8_delay_16 : decode cX8_delay 16 = .ok (.bipush (-2), 2) := by decide +kernel
theorem dX8_delay_18 : decode cX8_delay 18 = .ok (.ireturn, 1) := by decide +kernel
theorem dX8_delay_19 : decode cX8_delay 19 = .ok (.iconst 0, 1) := by decide +kernel
theorem dX8_delay_20 : decode cX8_delay 20 = .ok (.istore_n 3, 1) := by decide +kernel
theorem dX8_delay_21 : decode cX8_delay 21 = .ok (.aload_n 0, 1) := by decide +kernel
theorem dX8_delay_22 : decode cX8_delay 22 = .ok (.iload_n 1, 1) := by decide +kernel
theorem dX8_delay_23 : decode cX8_delay 23 = .ok (.aload_n 0, 1) := by decide +kernel
theorem dX8_delay_24 : decode cX8_delay 24 = .ok (.getfield 16, 3) := by decide +kernel
theorem dX8_delay_27 : decode cX8_delay 27 = .ok (.iload_n 1, 1) := by decide +kernel
theorem dX8_delay_28 : decode cX8_delay 28 = .ok (.iaload, 1) := by decide +kernel
theorem dX8_delay_29 : decode cX8_delay 29 = .ok (.iload_n 2, 1) := by decide +kernel
theorem dX8_delay_30 : decode cX8_delay 30 = .ok (.iconst 0, 1) := by decide +kernel
theorem dX8_delay_31 : decode cX8_delay 31 = .ok (.invokevirtual 168, 3) := by decide +kernel
theorem dX8_delay_34 : decode cX8_delay 34 = .ok (.lstore 4, 2) := by decide +kernel
theorem dX8_delay_36 : decode cX8_delay 36 = .ok (.iconst 1, 1) := by decide +kernel
theorem dX8_delay_37 : decode cX8_delay 37 = .ok (.istore 6, 2) := by decide +kernel
theorem dX8_delay_39 : decode cX8_delay 39 = .ok (.iload 6, 2) := by decide +kernel
theorem dX8_delay_41 : decode cX8_delay 41 = .ok (.bipush 30, 2) := by decide +kernel
theorem dX8_delay_43 : decode cX8_delay 43 = .ok (.if_icmp .gt 40, 3) := by decide +kernel
theorem dX8_delay_46 : decode cX8_delay 46 = .ok (.aload_n 0, 1) := by decide +kernel
theorem dX8_delay_47 : decode cX8_delay 47 = .ok (.iload_n 1, 1) := by decide +kernel
theorem dX8_delay_48 : decode cX8_delay 48 = .ok (.aload_n 0, 1) := by decide +kernel
theorem dX8_delay_49 : decode cX8_delay 49 = .ok (.getfield 16, 3) := by decide +kernel
theorem dX8_delay_52 : decode cX8_delay 52 = .ok (.iload_n 1, 1) := by decide +kernel
theorem dX8_delay_53 : decode cX8_delay 53 = .ok (.iaload, 1) := by decide +kernel
theorem dX8_delay_54 : decode cX8_delay 54 = .ok (.iload_n 2, 1) := by decide +kernel
theorem dX8_delay_55 : decode cX8_delay 55 = .ok (.iload 6, 2) := by decide +kernel
theorem dX8_delay_57 : decode cX8_delay 57 = .ok (.invokevirtual 168, 3) := by decide +kernel
theorem dX8_delay_60 : decode cX8_delay 60 = .ok (.lstore 7, 2) := by decide +kernel
theorem dX8_delay_62 : decode cX8_delay 62 = .ok (.lload 7, 2) := by decide +kernel
theorem dX8_delay_64 : decode cX8_delay 64 = .ok (.lload 4, 2) := by decide +kernel
theorem dX8_delay_66 : decode cX8_delay 66 = .ok (.lcmp, 1) := by decide +kernel
theorem dX8_delay_67 : decode cX8_delay 67 = .ok (.ifCond .le 10, 3) := by decide +kernel
theorem dX8_delay_70 : decode cX8_delay 70 = .ok (.lload 7, 2) := by decide +kernel
theorem dX8_delay_72 : decode cX8_delay 72 = .ok (.lstore 4, 2) := by decide +kernel
theorem dX8_delay_74 : decode cX8_delay 74 = .ok (.iload 6, 2) := by decide +kernel
theorem dX8_delay_76 : decode cX8_delay 76 = .ok (.istore_n 3, 1) := by decide +kernel
theorem dX8_delay_77 : decode cX8_delay 77 = .ok (.iinc 6 1, 3) := by decide +kernel
theorem dX8_delay_80 : decode cX8_delay 80 = .ok (.goto (-41), 3) := by decide +kernel
theorem dX8_delay_83 : decode cX8_delay 83 = .ok (.iload_n 3, 1) := by decide +kernel
theorem dX8_delay_84 : decode cX8_delay 84 = .ok (.ireturn, 1) := by decide +kernel
theorem dX8_sign_0 : decode cX8_sign 0 = .ok (.lload_n 0, 1) := by decide +kernel
theorem dX8_sign_1 : decode cX8_sign 1 = .ok (.lconst 0, 1) := by decide +kernel
theorem dX8_sign_2 : decode cX8_sign 2 = .ok (.lcmp, 1) := by decide +kernel
theorem dX8_sign_3 : decode cX8_sign 3 = .ok (.ifCond .le 7, 3) := by decide +kernel
theorem dX8_sign_6 : decode cX8_sign 6 = .ok (.iconst 1, 1) := by decide +kernel
theorem dX8_sign_7 : decode cX8_sign 7 = .ok (.goto 14, 3) := by decide +kernel
theorem dX8_sign_10 : decode cX8_sign 10 = .ok (.lload_n 0, 1) := by decide +kernel
theorem dX8_sign_11 : decode cX8_sign 11 = .ok (.lconst 0, 1) := by decide +kernel
theorem dX8_sign_12 : decode cX8_sign 12 = .ok (.lcmp, 1) := by decide +kernel
theorem dX8_sign_13 : decode cX8_sign 13 = .ok (.ifCond .ge 7, 3) := by decide +kernel
theorem dX8_sign_16 : decode cX8_sign 16 = .ok (.iconst (-1), 1) := by decide +kernel
theorem dX8_sign_17 : decode cX8_sign 17 = .ok (.goto 4, 3) := by decide +kernel
theorem dX8_sign_20 : decode cX8_sign 20 = .ok (.iconst 0, 1) := by decide +kernel
theorem dX8_sign_21 : decode cX8_sign 21 = .ok (.ireturn, 1) := by decide +kernel
theorem dX8_three_0 : decode cX8_three 0 = .ok (.aload_n 0, 1) := by decide +kernel
theorem dX8_three_1 : decode cX8_three 1 = .ok (.iload_n 1, 1) := by decide +kernel
theorem dX8_three_2 : decode cX8_three 2 = .ok (.invokevirtual 129, 3) := by decide +kernel
theorem dX8_three_5 : decode cX8_three 5 = .ok (.ifCond .eq 34, 3) := by decide +kernel
theorem dX8_three_8 : decode cX8_three 8 = .ok (.aload_n 0, 1) := by decide +kernel
theorem dX8_three_9 : decode cX8_three 9 = .ok (.iload_n 2, 1) := by decide +kernel
theorem dX8_three_10 : decode cX8_three 10 = .ok (.invokevirtual 129, 3) := by decide +kernel
theorem dX8_three_13 : decode cX8_three 13 = .ok (.ifCond .eq 26, 3) := by decide +kernel
theorem dX8_three_16 : decode cX8_three 16 = .ok (.aload_n 0, 1) := by decide +kernel
theorem dX8_three_17 : decode cX8_three 17 = .ok (.iload_n 3, 1) := by decide +kernel
theorem dX8_three_18 : decode cX8_three 18 = .ok (.invokevirtual 129, 3) := by decide +kernel
theorem dX8_three_21 : decode cX8_three 21 = .ok (.ifCond .eq 18, 3) := by decide +kernel
theorem dX8_three_24 : decode cX8_three 24 = .ok (.iload_n 1, 1) := by decide +kernel
theorem dX8_three_25 : decode cX8_three 25 = .ok (.iload_n 2, 1) := by decide +kernel
theorem dX8_three_26 : decode cX8_three 26 = .ok (.if_icmp .eq 13, 3) := by decide +kernel
theorem dX8_three_29 : decode cX8_three 29 = .ok (.iload_n 2, 1) := by decide +kernel
theorem dX8_three_30 : decode cX8_three 30 = .ok (.iload_n 3, 1) := by decide +kernel
theorem dX8_three_31 : decode cX8_three 31 = .ok (.if_icmp .eq 8, 3) := by decide +kernel
theorem dX8_three_34 : decode cX8_three 34 = .ok (.iload_n 1, 1) := by decide +kernel
theorem dX8_three_35 : decode cX8_three 35 = .ok (.iload_n 3, 1) := by decide +kernel
theorem dX8_three_36 : decode cX8_three 36 = .ok (.if_icmp .ne 6, 3) := by decide +kernel
theorem dX8_three_39 : decode cX8_three 39 = .ok (.bipush (-2), 2) := by decide +kernel
theorem dX8_three_41 : decode cX8_three 41 = .ok (.ireturn, 1) := by decide +kernel
theorem dX8_three_42 : decode cX8_three 42 = .ok (.aload_n 0, 1) := by decide +kernel
theorem dX8_three_43 : decode cX8_three 43 = .ok (.iload_n 1, 1) := by decide +kernel
theorem dX8_three_44 : decode cX8_three 44 = .ok (.iload_n 2, 1) := by decide +kernel
theorem dX8_three_45 : decode cX8_three 45 = .ok (.invokevirtual 172, 3) := by decide +kernel
theorem dX8_three_48 : decode cX8_three 48 = .ok (.invokestatic 177, 3) := by decide +kernel
theorem dX8_three_51 : decode cX8_three 51 = .ok (.aload_n 0, 1) := by decide +kernel
theorem dX8_three_52 : decode cX8_three 52 = .ok (.iload_n 2, 1) := by decide +kernel
theorem dX8_three_53 : decode cX8_three 53 = .ok (.iload_n 3, 1) := by decide +kernel
theorem dX8_three_54 : decode cX8_three 54 = .ok (.invokevirtual 172, 3) := by decide +kernel
theorem dX8_three_57 : decode cX8_three 57 = .ok (.invokestatic 177, 3) := by decide +kernel
theorem dX8_three_60 : decode cX8_three 60 = .ok (.imul, 1) := by decide +kernel
theorem dX8_three_61 : decode cX8_three 61 = .ok (.aload_n 0, 1) := by decide +kernel
theorem dX8_three_62 : decode cX8_three 62 = .ok (.iload_n 1, 1) := by decide +kernel
theorem dX8_three_63 : decode cX8_three 63 = .ok (.iload_n 3, 1) := by decide +kernel
theorem dX8_three_64 : decode cX8_three 64 = .ok (.invokevirtual 172, 3) := by decide +kernel
theorem dX8_three_67 : decode cX8_three 67 = .ok (.invokestatic 177, 3) := by decide +kernel
theorem dX8_three_70 : decode cX8_three 70 = .ok (.imul, 1) := by decide +kernel
theorem dX8_three_71 : decode cX8_three 71 = .ok (.ireturn, 1) := by decide +kernel
theorem dX8_four_0 : decode cX8_four 0 = .ok (.aload_n 0, 1) := by decide +kernel
theorem dX8_four_1 : decode cX8_four 1 = .ok (.iload_n 1, 1) := by decide +kernel
theorem dX8_four_2 : decode cX8_four 2 = .ok (.invokevirtual 129, 3) := by decide +kernel
theorem dX8_four_5 : decode cX8_four 5 = .ok (.ifCond .eq 61, 3) := by decide +kernel
theorem dX8_four_8 : decode cX8_four 8 = .ok (.aload_n 0, 1) := by decide +kernel
theorem dX8_four_9 : decode cX8_four 9 = .ok (.iload_n 2, 1) := by decide +kernel
theorem dX8_four_10 : decode cX8_four 10 = .ok (.invokevirtual 129, 3) := by decide +kernel
theorem dX8_four_13 : decode cX8_four 13 = .ok (.ifCond .eq 53, 3) := by decide +kernel
theorem dX8_four_16 : decode cX8_four 16 = .ok (.aload_n 0, 1) := by decide +kernel
theorem dX8_four_17 : decode cX8_four 17 = .ok (.iload_n 3, 1) := by decide +kernel
theorem dX8_four_18 : decode cX8_four 18 = .ok (.invokevirtual 129, 3) := by decide +kernel
theorem dX8_four_21 : decode cX8_four 21 = .ok (.ifCond .eq 45, 3) := by decide +kernel
theorem dX8_four_24 : decode cX8_four 24 = .ok (.aload_n 0, 1) := by decide +kernel
theorem dX8_four_25 : decode cX8_four 25 = .ok (.iload 4, 2) := by decide +kernel
theorem dX8_four_27 : decode cX8_four 27 = .ok (.invokevirtual 129, 3) := by decide +kernel
theorem dX8_four_30 : decode cX8_four 30 = .ok (.ifCond .eq 36, 3) := by decide +kernel
theorem dX8_four_33 : decode cX8_four 33 = .ok (.iload_n 1, 1) := by decide +kernel
theorem dX8_four_34 : decode cX8_four 34 = .ok (.iload_n 2, 1) := by decide +kernel
theorem dX8_four_35 : decode cX8_four 35 = .ok (.if_icmp .eq 31, 3) := by decide +kernel
theorem dX8_four_38 : decode cX8_four 38 = .ok (.iload_n 1, 1) := by decide +kernel
theorem dX8_four_39 : decode cX8_four 39 = .ok (.iload_n 3, 1) := by decide +kernel
theorem dX8_four_40 : decode cX8_four 40 = .ok (.if_icmp .eq 26, 3) := by decide +kernel
theorem dX8_four_43 : decode cX8_four 43 = .ok (.iload_n 1, 1) := by decide +kernel
theorem dX8_four_44 : decode cX8_four 44 = .ok (.iload 4, 2) := by decide +kernel
theorem dX8_four_46 : decode cX8_four 46 = .ok (.if_icmp .eq 20, 3) := by decide +kernel
theorem dX8_four_49 : decode cX8_four 49 = .ok (.iload_n 2, 1) := by decide +kernel
theorem dX8_four_50 : decode cX8_four 50 = .ok (.iload_n 3, 1) := by decide +kernel
theorem dX8_four_51 : decode cX8_four 51 = .ok (.if_icmp .eq 15, 3) := by decide +kernel
theorem dX8_four_54 : decode cX8_four 54 = .ok (.iload_n 2, 1) := by decide +kernel
theorem dX8_four_55 : decode cX8_four 55 = .ok (.iload 4, 2) := by decide +kernel
theorem dX8_four_57 : decode cX8_four 57 = .ok (.if_icmp .eq 9, 3) := by decide +kernel
theorem dX8_four_60 : decode cX8_four 60 = .ok (.iload_n 3, 1) := by decide +kernel
theorem dX8_four_61 : decode cX8_four 61 = .ok (.iload 4, 2) := by decide +kernel
theorem dX8_four_63 : decode cX8_four 63 = .ok (.if_icmp .ne 6, 3) := by decide +kernel
theorem dX8_four_66 : decode cX8_four 66 = .ok (.bipush (-2), 2) := by decide +kernel
theorem dX8_four_68 : decode cX8_four 68 = .ok (.ireturn, 1) := by decide +kernel
theorem dX8_four_69 : decode cX8_four 69 = .ok (.aload_n 0, 1) := by decide +kernel
theorem dX8_four_70 : decode cX8_four 70 = .ok (.iload_n 1, 1) := by decide +kernel
theorem dX8_four_71 : decode cX8_four 71 = .ok (.iload_n 2, 1) := by decide +kernel
theorem dX8_four_72 : decode cX8_four 72 = .ok (.invokevirtual 172, 3) := by decide +kernel
theorem dX8_four_75 : decode cX8_four 75 = .ok (.aload_n 0, 1) := by decide +kernel
theorem dX8_four_76 : decode cX8_four 76 = .ok (.iload_n 3, 1) := by decide +kernel
theorem dX8_four_77 : decode cX8_four 77 = .ok (.iload 4, 2) := by decide +kernel
theorem dX8_four_79 : decode cX8_four 79 = .ok (.invokevirtual 172, 3) := by decide +kernel
theorem dX8_four_82 : decode cX8_four 82 = .ok (.lmul, 1) := by decide +kernel
theorem dX8_four_83 : decode cX8_four 83 = .ok (.aload_n 0, 1) := by decide +kernel
theorem dX8_four_84 : decode cX8_four 84 = .ok (.iload_n 1, 1) := by decide +kernel
theorem dX8_four_85 : decode cX8_four 85 = .ok (.iload_n 3, 1) := by decide +kernel
theorem dX8_four_86 : decode cX8_four 86 = .ok (.invokevirtual 172, 3) := by decide +kernel
theorem dX8_four_89 : decode cX8_four 89 = .ok (.aload_n 0, 1) := by decide +kernel
theorem dX8_four_90 : decode cX8_four 90 = .ok (.iload_n 2, 1) := by decide +kernel
theorem dX8_four_91 : decode cX8_four 91 = .ok (.iload 4, 2) := by decide +kernel
theorem dX8_four_93 : decode cX8_four 93 = .ok (.invokevirtual 172, 3) := by decide +kernel
theorem dX8_four_96 : decode cX8_four 96 = .ok (.lmul, 1) := by decide +kernel
theorem dX8_four_97 : decode cX8_four 97 = .ok (.lsub, 1) := by decide +kernel
theorem dX8_four_98 : decode cX8_four 98 = .ok (.invokestatic 177, 3) := by decide +kernel
theorem dX8_four_101 : decode cX8_four 101 = .ok (.ireturn, 1) := by decide +kernel
theorem dX8_all_0 : decode cX8_all 0 = .ok (.aload_n 0, 1) := by decide +kernel
theorem dX8_all_1 : decode cX8_all 1 = .ok (.iconst 0, 1) := by decide +kernel
theorem dX8_all_2 : decode cX8_all 2 = .ok (.putfield 181, 3) := by decide +kernel
theorem dX8_all_5 : decode cX8_all 5 = .ok (.aload_n 0, 1) := by decide +kernel
theorem dX8_all_6 : decode cX8_all 6 = .ok (.bipush 15, 2) := by decide +kernel
theorem dX8_all_8 : decode cX8_all 8 = .ok (.putfield 184, 3) := by decide +kernel
theorem dX8_all_11 : decode cX8_all 11 = .ok (.aload_n 0, 1) := by decide +kernel
theorem dX8_all_12 : decode cX8_all 12 = .ok (.iconst 0, 1) := by decide +kernel
theorem dX8_all_13 : decode cX8_all 13 = .ok (.putfield 187, 3) := by decide +kernel
theorem dX8_all_16 : decode cX8_all 16 = .ok (.aload_n 0, 1) := by decide +kernel
theorem dX8_all_17 : decode cX8_all 17 = .ok (.bipush 15, 2) := by decide +kernel
theorem dX8_all_19 : decode cX8_all 19 = .ok (.putfield 190, 3) := by decide +kernel
theorem dX8_all_22 : decode cX8_all 22 = .ok (.return_, 1) := by decide +kernel
theorem dX8_wave_0 : decode cX8_wave 0 = .ok (.aload_n 0, 1) := by decide +kernel
theorem dX8_wave_1 : decode cX8_wave 1 = .ok (.getfield 47, 3) := by decide +kernel
theorem dX8_wave_4 : decode cX8_wave 4 = .ok (.iload_n 1, 1) := by decide +kernel
theorem dX8_wave_5 : decode cX8_wave 5 = .ok (.bipush 15, 2) := by decide +kernel
theorem dX8_wave_7 : decode cX8_wave 7 = .ok (.iand, 1) := by decide +kernel
theorem dX8_wave_8 : decode cX8_wave 8 = .ok (.iaload, 1) := by decide +kernel
theorem dX8_wave_9 : decode cX8_wave 9 = .ok (.ireturn, 1) := by decide +kernel
theorem dX8_space_0 : decode cX8_space 0 = .ok (.aload_n 0, 1) := by decide +kernel
theorem dX8_space_1 : decode cX8_space 1 = .ok (.iconst 0, 1) := by decide +kernel
theorem dX8_space_2 : decode cX8_space 2 = .ok (.putfield 193, 3) := by decide +kernel
theorem dX8_space_5 : decode cX8_space 5 = .ok (.iconst 0, 1) := by decide +kernel
theorem dX8_space_6 : decode cX8_space 6 = .ok (.istore_n 1, 1) := by decide +kernel
theorem dX8_space_7 : decode cX8_space 7 = .ok (.iload_n 1, 1) := by decide +kernel
theorem dX8_space_8 : decode cX8_space 8 = .ok (.aload_n 0, 1) := by decide +kernel
theorem dX8_space_9 : decode cX8_space 9 = .ok (.getfield 118, 3) := by decide +kernel
theorem dX8_space_12 : decode cX8_space 12 = .ok (.if_icmp .ge 105, 3) := by decide +kernel
theorem dX8_space_15 : decode cX8_space 15 = .ok (.iload_n 1, 1) := by decide +kernel
theorem dX8_space_16 : decode cX8_space 16 = .ok (.iconst 1, 1) := by decide +kernel
theorem dX8_space_17 : decode cX8_space 17 = .ok (.iadd, 1) := by decide +kernel
theorem dX8_space_18 : decode cX8_space 18 = .ok (.istore_n 2, 1) := by decide +kernel
theorem dX8_space_19 : decode cX8_space 19 = .ok (.iload_n 2, 1) := by decide +kernel
theorem dX8_space_20 : decode cX8_space 20 = .ok (.aload_n 0, 1) := by decide +kernel
theorem dX8_space_21 : decode cX8_space 21 = .ok (.getfield 118, 3) := by decide +kernel
theorem dX8_space_24 : decode cX8_space 24 = .ok (.if_icmp .ge 87, 3) := by decide +kernel
theorem dX8_space_27 : decode cX8_space 27 = .ok (.aload_n 0, 1) := by decide +kernel
theorem dX8_space_28 : decode cX8_space 28 = .ok (.iload_n 1, 1) := by decide +kernel
theorem dX8_space_29 : decode cX8_space 29 = .ok (.iload_n 2, 1) := by decide +kernel
theorem dX8_space_30 : decode cX8_space 30 = .ok (.invokevirtual 172, 3) := by decide +kernel
theorem dX8_space_33 : decode cX8_space 33 = .ok (.lstore_n 3, 1) := by decide +kernel
theorem dX8_space_34 : decode cX8_space 34 = .ok (.aload_n 0, 1) := by decide +kernel
theorem dX8_space_35 : decode cX8_space 35 = .ok (.getfield 157, 3) := by decide +kernel
theorem dX8_space_38 : decode cX8_space 38 = .ok (.ifCond .le 67, 3) := by decide +kernel
theorem dX8_space_41 : decode cX8_space 41 = .ok (.aload_n 0, 1) := by decide +kernel
theorem dX8_space_42 : decode cX8_space 42 = .ok (.getfield 54, 3) := by decide +kernel
theorem dX8_space_45 : decode cX8_space 45 = .ok (.aload_n 0, 1) := by decide +kernel
theorem dX8_space_46 : decode cX8_space 46 = .ok (.getfield 193, 3) := by decide +kernel
theorem dX8_space_49 : decode cX8_space 49 = .ok (.aload_n 0, 1) := by decide +kernel
theorem dX8_space_50 : decode cX8_space 50 = .ok (.getfield 7, 3) := by decide +kernel
theorem dX8_space_53 : decode cX8_space 53 = .ok (.iload_n 2, 1) := by decide +kernel
theorem dX8_space_54 : decode cX8_space 54 = .ok (.iaload, 1) := by decide +kernel
theorem dX8_space_55 : decode cX8_space 55 = .ok (.aload_n 0, 1) := by decide +kernel
theorem dX8_space_56 : decode cX8_space 56 = .ok (.getfield 7, 3) := by decide +kernel
theorem dX8_space_59 : decode cX8_space 59 = .ok (.iload_n 1, 1) := by decide +kernel
theorem dX8_space_60 : decode cX8_space 60 = .ok (.iaload, 1) := by decide +kernel
theorem dX8_space_61 : decode cX8_space 61 = .ok (.isub, 1) := by decide +kernel
theorem dX8_space_62 : decode cX8_space 62 = .ok (.iastore, 1) := by decide +kernel
theorem dX8_space_63 : decode cX8_space 63 = .ok (.aload_n 0, 1) := by decide +kernel
theorem dX8_space_64 : decode cX8_space 64 = .ok (.getfield 57, 3) := by decide +kernel
theorem dX8_space_67 : decode cX8_space 67 = .ok (.aload_n 0, 1) := by decide +kernel
theorem dX8_space_68 : decode cX8_space 68 = .ok (.getfield 193, 3) := by decide +kernel
theorem dX8_space_71 : decode cX8_space 71 = .ok (.aload_n 0, 1) := by decide +kernel
theorem dX8_space_72 : decode cX8_space 72 = .ok (.getfield 13, 3) := by decide +kernel
theorem dX8_space_75 : decode cX8_space 75 = .ok (.iload_n 2, 1) := by decide +kernel
theorem dX8_space_76 : decode cX8_space 76 = .ok (.iaload, 1) := by decide +kernel
theorem dX8_space_77 : decode cX8_space 77 = .ok (.aload_n 0, 1) := by decide +kernel
theorem dX8_space_78 : decode cX8_space 78 = .ok (.getfield 13, 3) := by decide +kernel
theorem dX8_space_81 : decode cX8_space 81 = .ok (.iload_n 1, 1) := by decide +kernel
theorem dX8_space_82 : decode cX8_space 82 = .ok (.iaload, 1) := by decide +kernel
theorem dX8_space_83 : decode cX8_space 83 = .ok (.isub, 1) := by decide +kernel
theorem dX8_space_84 : decode cX8_space 84 = .ok (.iastore, 1) := by decide +kernel
theorem dX8_space_85 : decode cX8_space 85 = .ok (.aload_n 0, 1) := by decide +kernel
theorem dX8_space_86 : decode cX8_space 86 = .ok (.getfield 60, 3) := by decide +kernel
theorem dX8_space_89 : decode cX8_space 89 = .ok (.aload_n 0, 1) := by decide +kernel
theorem dX8_space_90 : decode cX8_space 90 = .ok (.getfield 193, 3) := by decide +kernel
theorem dX8_space_93 : decode cX8_space 93 = .ok (.lload_n 3, 1) := by decide +kernel
theorem dX8_space_94 : decode cX8_space 94 = .ok (.lastore, 1) := by decide +kernel
theorem dX8_space_95 : decode cX8_space 95 = .ok (.aload_n 0, 1) := by decide +kernel
theorem dX8_space_96 : decode cX8_space 96 = .ok (.dup, 1) := by decide +kernel
theorem dX8_space_97 : decode cX8_space 97 = .ok (.getfield 193, 3) := by decide +kernel
theorem dX8_space_100 : decode cX8_space 100 = .ok (.iconst 1, 1) := by decide +kernel
theorem dX8_space_101 : decode cX8_space 101 = .ok (.iadd, 1) := by decide +kernel
theorem dX8_space_102 : decode cX8_space 102 = .ok (.putfield 193, 3) := by decide +kernel
theorem dX8_space_105 : decode cX8_space 105 = .ok (.iinc 2 1, 3) := by decide +kernel
theorem dX8_space_108 : decode cX8_space 108 = .ok (.goto (-89), 3) := by decide +kernel
theorem dX8_space_111 : decode cX8_space 111 = .ok (.iinc 1 1, 3) := by decide +kernel
theorem dX8_space_114 : decode cX8_space 114 = .ok (.goto (-107), 3) := by decide +kernel
theorem dX8_space_117 : decode cX8_space 117 = .ok (.return_, 1) := by decide +kernel
theorem dX8_beamNow_0 : decode cX8_beamNow 0 = .ok (.iconst 0, 1) := by decide +kernel
theorem dX8_beamNow_1 : decode cX8_beamNow 1 = .ok (.istore_n 3, 1) := by decide +kernel
theorem dX8_beamNow_2 : decode cX8_beamNow 2 = .ok (.iconst 0, 1) := by decide +kernel
theorem dX8_beamNow_3 : decode cX8_beamNow 3 = .ok (.istore 4, 2) := by decide +kernel
theorem dX8_beamNow_5 : decode cX8_beamNow 5 = .ok (.iload 4, 2) := by decide +kernel
theorem dX8_beamNow_7 : decode cX8_beamNow 7 = .ok (.aload_n 0, 1) := by decide +kernel
theorem dX8_beamNow_8 : decode cX8_beamNow 8 = .ok (.getfield 193, 3) := by decide +kernel
theorem dX8_beamNow_11 : decode cX8_beamNow 11 = .ok (.if_icmp .ge 35, 3) := by decide +kernel
theorem dX8_beamNow_14 : decode cX8_beamNow 14 = .ok (.iload_n 3, 1) := by decide +kernel
theorem dX8_beamNow_15 : decode cX8_beamNow 15 = .ok (.aload_n 0, 1) := by decide +kernel
theorem dX8_beamNow_16 : decode cX8_beamNow 16 = .ok (.aload_n 0, 1) := by decide +kernel
theorem dX8_beamNow_17 : decode cX8_beamNow 17 = .ok (.getfield 54, 3) := by decide +kernel
theorem dX8_beamNow_20 : decode cX8_beamNow 20 = .ok (.iload 4, 2) := by decide +kernel
theorem dX8_beamNow_22 : decode cX8_beamNow 22 = .ok (.iaload, 1) := by decide +kernel
theorem dX8_beamNow_23 : decode cX8_beamNow 23 = .ok (.iload_n 1, 1) := by decide +kernel
theorem dX8_beamNow_24 : decode cX8_beamNow 24 = .ok (.imul, 1) := by decide +kernel
theorem dX8_beamNow_25 : decode cX8_beamNow 25 = .ok (.aload_n 0, 1) := by decide +kernel
theorem dX8_beamNow_26 : decode cX8_beamNow 26 = .ok (.getfield 57, 3) := by decide +kernel
theorem dX8_beamNow_29 : decode cX8_beamNow 29 = .ok (.iload 4, 2) := by decide +kernel
theorem dX8_beamNow_31 : decode cX8_beamNow 31 = .ok (.iaload, 1) := by decide +kernel
theorem dX8_beamNow_32 : decode cX8_beamNow 32 = .ok (.iload_n 2, 1) := by decide +kernel
theorem dX8_beamNow_33 : decode cX8_beamNow 33 = .ok (.imul, 1) := by decide +kernel
theorem dX8_beamNow_34 : decode cX8_beamNow 34 = .ok (.iadd, 1) := by decide +kernel
theorem dX8_beamNow_35 : decode cX8_beamNow 35 = .ok (.invokevirtual 196, 3) := by decide +kernel
theorem dX8_beamNow_38 : decode cX8_beamNow 38 = .ok (.iadd, 1) := by decide +kernel
theorem dX8_beamNow_39 : decode cX8_beamNow 39 = .ok (.istore_n 3, 1) := by decide +kernel
theorem dX8_beamNow_40 : decode cX8_beamNow 40 = .ok (.iinc 4 1, 3) := by decide +kernel
theorem dX8_beamNow_43 : decode cX8_beamNow 43 = .ok (.goto (-38), 3) := by decide +kernel
theorem dX8_beamNow_46 : decode cX8_beamNow 46 = .ok (.iload_n 3, 1) := by decide +kernel
theorem dX8_beamNow_47 : decode cX8_beamNow 47 = .ok (.ireturn, 1) := by decide +kernel
theorem dX8_keptBeam_0 : decode cX8_keptBeam 0 = .ok (.iconst 0, 1) := by decide +kernel
theorem dX8_keptBeam_1 : decode cX8_keptBeam 1 = .ok (.istore_n 3, 1) := by decide +kernel
theorem dX8_keptBeam_2 : decode cX8_keptBeam 2 = .ok (.iconst 0, 1) := by decide +kernel
theorem dX8_keptBeam_3 : decode cX8_keptBeam 3 = .ok (.istore 4, 2) := by decide +kernel
theorem dX8_keptBeam_5 : decode cX8_keptBeam 5 = .ok (.iload 4, 2) := by decide +kernel
theorem dX8_keptBeam_7 : decode cX8_keptBeam 7 = .ok (.aload_n 0, 1) := by decide +kernel
theorem dX8_keptBeam_8 : decode cX8_keptBeam 8 = .ok (.getfield 199, 3) := by decide +kernel
theorem dX8_keptBeam_11 : decode cX8_keptBeam 11 = .ok (.if_icmp .ge 35, 3) := by decide +kernel
theorem dX8_keptBeam_14 : decode cX8_keptBeam 14 = .ok (.iload_n 3, 1) := by decide +kernel
theorem dX8_keptBeam_15 : decode cX8_keptBeam 15 = .ok (.aload_n 0, 1) := by decide +kernel
theorem dX8_keptBeam_16 : decode cX8_keptBeam 16 = .ok (.aload_n 0, 1) := by decide +kernel
theorem dX8_keptBeam_17 : decode cX8_keptBeam 17 = .ok (.getfield 63, 3) := by decide +kernel
theorem dX8_keptBeam_20 : decode cX8_keptBeam 20 = .ok (.iload 4, 2) := by decide +kernel
theorem dX8_keptBeam_22 : decode cX8_keptBeam 22 = .ok (.iaload, 1) := by decide +kernel
theorem dX8_keptBeam_23 : decode cX8_keptBeam 23 = .ok (.iload_n 1, 1) := by decide +kernel
theorem dX8_keptBeam_24 : decode cX8_keptBeam 24 = .ok (.imul, 1) := by decide +kernel
theorem dX8_keptBeam_25 : decode cX8_keptBeam 25 = .ok (.aload_n 0, 1) := by decide +kernel
theorem dX8_keptBeam_26 : decode cX8_keptBeam 26 = .ok (.getfield 66, 3) := by decide +kernel
theorem dX8_keptBeam_29 : decode cX8_keptBeam 29 = .ok (.iload 4, 2) := by decide +kernel
theorem dX8_keptBeam_31 : decode cX8_keptBeam 31 = .ok (.iaload, 1) := by decide +kernel
theorem dX8_keptBeam_32 : decode cX8_keptBeam 32 = .ok (.iload_n 2, 1) := by decide +kernel
theorem dX8_keptBeam_33 : decode cX8_keptBeam 33 = .ok (.imul, 1) := by decide +kernel
theorem dX8_keptBeam_34 : decode cX8_keptBeam 34 = .ok (.iadd, 1) := by decide +kernel
theorem dX8_keptBeam_35 : decode cX8_keptBeam 35 = .ok (.invokevirtual 196, 3) := by decide +kernel
theorem dX8_keptBeam_38 : decode cX8_keptBeam 38 = .ok (.iadd, 1) := by decide +kernel
theorem dX8_keptBeam_39 : decode cX8_keptBeam 39 = .ok (.istore_n 3, 1) := by decide +kernel
theorem dX8_keptBeam_40 : decode cX8_keptBeam 40 = .ok (.iinc 4 1, 3) := by decide +kernel
theorem dX8_keptBeam_43 : decode cX8_keptBeam 43 = .ok (.goto (-38), 3) := by decide +kernel
theorem dX8_keptBeam_46 : decode cX8_keptBeam 46 = .ok (.iload_n 3, 1) := by decide +kernel
theorem dX8_keptBeam_47 : decode cX8_keptBeam 47 = .ok (.ireturn, 1) := by decide +kernel
theorem dX8_beam_0 : decode cX8_beam 0 = .ok (.iload_n 1, 1) := by decide +kernel
theorem dX8_beam_1 : decode cX8_beam 1 = .ok (.i2l, 1) := by decide +kernel
theorem dX8_beam_2 : decode cX8_beam 2 = .ok (.ldc2_w 202, 3) := by decide +kernel
theorem dX8_beam_5 : decode cX8_beam 5 = .ok (.ldc2_w 204, 3) := by decide +kernel
theorem dX8_beam_8 : decode cX8_beam 8 = .ok (.invokestatic 121, 3) := by decide +kernel
theorem dX8_beam_11 : decode cX8_beam 11 = .ok (.ifCond .eq 17, 3) := by decide +kernel
theorem dX8_beam_14 : decode cX8_beam 14 = .ok (.iload_n 2, 1) := by decide +kernel
theorem dX8_beam_15 : decode cX8_beam 15 = .ok (.i2l, 1) := by decide +kernel
theorem dX8_beam_16 : decode cX8_beam 16 = .ok (.ldc2_w 202, 3) := by decide +kernel
theorem dX8_beam_19 : decode cX8_beam 19 = .ok (.ldc2_w 204, 3) := by decide +kernel
theorem dX8_beam_22 : decode cX8_beam 22 = .ok (.invokestatic 121, 3) := by decide +kernel
theorem dX8_beam_25 : decode cX8_beam 25 = .ok (.ifCond .ne 6, 3) := by decide +kernel
theorem dX8_beam_28 : decode cX8_beam 28 = .ok (.ldc 149, 2) := by decide +kernel
theorem dX8_beam_30 : decode cX8_beam 30 = .ok (.ireturn, 1) := by decide +kernel
theorem dX8_beam_31 : decode cX8_beam 31 = .ok (.aload_n 0, 1) := by decide +kernel
theorem dX8_beam_32 : decode cX8_beam 32 = .ok (.invokevirtual 206, 3) := by decide +kernel
theorem dX8_beam_35 : decode cX8_beam 35 = .ok (.aload_n 0, 1) := by decide +kernel
theorem dX8_beam_36 : decode cX8_beam 36 = .ok (.iload_n 1, 1) := by decide +kernel
theorem dX8_beam_37 : decode cX8_beam 37 = .ok (.iload_n 2, 1) := by decide +kernel
theorem dX8_beam_38 : decode cX8_beam 38 = .ok (.invokevirtual 209, 3) := by decide +kernel
theorem dX8_beam_41 : decode cX8_beam 41 = .ok (.ireturn, 1) := by decide +kernel
theorem dX8_isCell_0 : decode cX8_isCell 0 = .ok (.iload_n 0, 1) := by decide +kernel
theorem dX8_isCell_1 : decode cX8_isCell 1 = .ok (.i2l, 1) := by decide +kernel
theorem dX8_isCell_2 : decode cX8_isCell 2 = .ok (.lconst 0, 1) := by decide +kernel
theorem dX8_isCell_3 : decode cX8_isCell 3 = .ok (.ldc2_w 213, 3) := by decide +kernel
theorem dX8_isCell_6 : decode cX8_isCell 6 = .ok (.invokestatic 121, 3) := by decide +kernel
theorem dX8_isCell_9 : decode cX8_isCell 9 = .ok (.ifCond .eq 19, 3) := by decide +kernel
theorem dX8_isCell_12 : decode cX8_isCell 12 = .ok (.iload_n 1, 1) := by decide +kernel
theorem dX8_isCell_13 : decode cX8_isCell 13 = .ok (.i2l, 1) := by decide +kernel
theorem dX8_isCell_14 : decode cX8_isCell 14 = .ok (.lconst 0, 1) := by decide +kernel
theorem dX8_isCell_15 : decode cX8_isCell 15 = .ok (.ldc2_w 213, 3) := by decide +kernel
theorem dX8_isCell_18 : decode cX8_isCell 18 = .ok (.invokestatic 121, 3) := by decide +kernel
theorem dX8_isCell_21 : decode cX8_isCell 21 = .ok (.ifCond .eq 7, 3) := by decide +kernel
theorem dX8_isCell_24 : decode cX8_isCell 24 = .ok (.iconst 1, 1) := by decide +kernel
theorem dX8_isCell_25 : decode cX8_isCell 25 = .ok (.goto 4, 3) := by decide +kernel
theorem dX8_isCell_28 : decode cX8_isCell 28 = .ok (.iconst 0, 1) := by decide +kernel
theorem dX8_isCell_29 : decode cX8_isCell 29 = .ok (.ireturn, 1) := by decide +kernel
theorem dX8_point_0 : decode cX8_point 0 = .ok (.iload_n 1, 1) := by decide +kernel
theorem dX8_point_1 : decode cX8_point 1 = .ok (.iload_n 2, 1) := by decide +kernel
theorem dX8_point_2 : decode cX8_point 2 = .ok (.invokestatic 215, 3) := by decide +kernel
theorem dX8_point_5 : decode cX8_point 5 = .ok (.ifCond .eq 17, 3) := by decide +kernel
theorem dX8_point_8 : decode cX8_point 8 = .ok (.iload_n 3, 1) := by decide +kernel
theorem dX8_point_9 : decode cX8_point 9 = .ok (.i2l, 1) := by decide +kernel
theorem dX8_point_10 : decode cX8_point 10 = .ok (.ldc2_w 202, 3) := by decide +kernel
theorem dX8_point_13 : decode cX8_point 13 = .ok (.ldc2_w 204, 3) := by decide +kernel
theorem dX8_point_16 : decode cX8_point 16 = .ok (.invokestatic 121, 3) := by decide +kernel
theorem dX8_point_19 : decode cX8_point 19 = .ok (.ifCond .ne 6, 3) := by decide +kernel
theorem dX8_point_22 : decode cX8_point 22 = .ok (.bipush (-2), 2) := by decide +kernel
theorem dX8_point_24 : decode cX8_point 24 = .ok (.ireturn, 1) := by decide +kernel
theorem dX8_point_25 : decode cX8_point 25 = .ok (.aload_n 0, 1) := by decide +kernel
theorem dX8_point_26 : decode cX8_point 26 = .ok (.getfield 218, 3) := by decide +kernel
theorem dX8_point_29 : decode cX8_point 29 = .ok (.bipush 10, 2) := by decide +kernel
theorem dX8_point_31 : decode cX8_point 31 = .ok (.if_icmp .ne 6, 3) := by decide +kernel
theorem dX8_point_34 : decode cX8_point 34 = .ok (.bipush (-3), 2) := by decide +kernel
theorem dX8_point_36 : decode cX8_point 36 = .ok (.ireturn, 1) := by decide +kernel
theorem dX8_point_37 : decode cX8_point 37 = .ok (.aload_n 0, 1) := by decide +kernel
theorem dX8_point_38 : decode cX8_point 38 = .ok (.getfield 69, 3) := by decide +kernel
theorem dX8_point_41 : decode cX8_point 41 = .ok (.aload_n 0, 1) := by decide +kernel
theorem dX8_point_42 : decode cX8_point 42 = .ok (.getfield 218, 3) := by decide +kernel
theorem dX8_point_45 : decode cX8_point 45 = .ok (.iload_n 1, 1) := by decide +kernel
theorem dX8_point_46 : decode cX8_point 46 = .ok (.iastore, 1) := by decide +kernel
theorem dX8_point_47 : decode cX8_point 47 = .ok (.aload_n 0, 1) := by decide +kernel
theorem dX8_point_48 : decode cX8_point 48 = .ok (.getfield 72, 3) := by decide +kernel
theorem dX8_point_51 : decode cX8_point 51 = .ok (.aload_n 0, 1) := by decide +kernel
theorem dX8_point_52 : decode cX8_point 52 = .ok (.getfield 218, 3) := by decide +kernel
theorem dX8_point_55 : decode cX8_point 55 = .ok (.iload_n 2, 1) := by decide +kernel
theorem dX8_point_56 : decode cX8_point 56 = .ok (.iastore, 1) := by decide +kernel
theorem dX8_point_57 : decode cX8_point 57 = .ok (.aload_n 0, 1) := by decide +kernel
theorem dX8_point_58 : decode cX8_point 58 = .ok (.getfield 75, 3) := by decide +kernel
theorem dX8_point_61 : decode cX8_point 61 = .ok (.aload_n 0, 1) := by decide +kernel
theorem dX8_point_62 : decode cX8_point 62 = .ok (.getfield 218, 3) := by decide +kernel
theorem dX8_point_65 : decode cX8_point 65 = .ok (.iload_n 3, 1) := by decide +kernel
theorem dX8_point_66 : decode cX8_point 66 = .ok (.iastore, 1) := by decide +kernel
theorem dX8_point_67 : decode cX8_point 67 = .ok (.aload_n 0, 1) := by decide +kernel
theorem dX8_point_68 : decode cX8_point 68 = .ok (.dup, 1) := by decide +kernel
theorem dX8_point_69 : decode cX8_point 69 = .ok (.getfield 218, 3) := by decide +kernel
theorem dX8_point_72 : decode cX8_point 72 = .ok (.iconst 1, 1) := by decide +kernel
theorem dX8_point_73 : decode cX8_point 73 = .ok (.iadd, 1) := by decide +kernel
theorem dX8_point_74 : decode cX8_point 74 = .ok (.putfield 218, 3) := by decide +kernel
theorem dX8_point_77 : decode cX8_point 77 = .ok (.aload_n 0, 1) := by decide +kernel
theorem dX8_point_78 : decode cX8_point 78 = .ok (.getfield 218, 3) := by decide +kernel
theorem dX8_point_81 : decode cX8_point 81 = .ok (.ireturn, 1) := by decide +kernel
theorem dX8_dark_0 : decode cX8_dark 0 = .ok (.aload_n 0, 1) := by decide +kernel
theorem dX8_dark_1 : decode cX8_dark 1 = .ok (.getfield 218, 3) := by decide +kernel
theorem dX8_dark_4 : decode cX8_dark 4 = .ok (.istore_n 1, 1) := by decide +kernel
theorem dX8_dark_5 : decode cX8_dark 5 = .ok (.aload_n 0, 1) := by decide +kernel
theorem dX8_dark_6 : decode cX8_dark 6 = .ok (.iconst 0, 1) := by decide +kernel
theorem dX8_dark_7 : decode cX8_dark 7 = .ok (.putfield 218, 3) := by decide +kernel
theorem dX8_dark_10 : decode cX8_dark 10 = .ok (.iload_n 1, 1) := by decide +kernel
theorem dX8_dark_11 : decode cX8_dark 11 = .ok (.ireturn, 1) := by decide +kernel
theorem dX8_cellOf_0 : decode cX8_cellOf 0 = .ok (.lconst 0, 1) := by decide +kernel
theorem dX8_cellOf_1 : decode cX8_cellOf 1 = .ok (.lstore 4, 2) := by decide +kernel
theorem dX8_cellOf_3 : decode cX8_cellOf 3 = .ok (.iload_n 1, 1) := by decide +kernel
theorem dX8_cellOf_4 : decode cX8_cellOf 4 = .ok (.ifCond .ne 61, 3) := by decide +kernel
theorem dX8_cellOf_7 : decode cX8_cellOf 7 = .ok (.iconst 0, 1) := by decide +kernel
theorem dX8_cellOf_8 : decode cX8_cellOf 8 = .ok (.istore 6, 2) := by decide +kernel
theorem dX8_cellOf_10 : decode cX8_cellOf 10 = .ok (.iload 6, 2) := by decide +kernel
theorem dX8_cellOf_12 : decode cX8_cellOf 12 = .ok (.aload_n 0, 1) := by decide +kernel
theorem dX8_cellOf_13 : decode cX8_cellOf 13 = .ok (.getfield 193, 3) := by decide +kernel
theorem dX8_cellOf_16 : decode cX8_cellOf 16 = .ok (.if_icmp .ge 46, 3) := by decide +kernel
theorem dX8_cellOf_19 : decode cX8_cellOf 19 = .ok (.lload 4, 2) := by decide +kernel
theorem dX8_cellOf_21 : decode cX8_cellOf 21 = .ok (.aload_n 0, 1) := by decide +kernel
theorem dX8_cellOf_22 : decode cX8_cellOf 22 = .ok (.getfield 60, 3) := by decide +kernel
theorem dX8_cellOf_25 : decode cX8_cellOf 25 = .ok (.iload 6, 2) := by decide +kernel
theorem dX8_cellOf_27 : decode cX8_cellOf 27 = .ok (.laload, 1) := by decide +kernel
theorem dX8_cellOf_28 : decode cX8_cellOf 28 = .ok (.aload_n 0, 1) := by decide +kernel
theorem dX8_cellOf_29 : decode cX8_cellOf 29 = .ok (.aload_n 0, 1) := by decide +kernel
theorem dX8_cellOf_30 : decode cX8_cellOf 30 = .ok (.getfield 54, 3) := by decide +kernel
theorem dX8_cellOf_33 : decode cX8_cellOf 33 = .ok (.iload 6, 2) := by decide +kernel
theorem dX8_cellOf_35 : decode cX8_cellOf 35 = .ok (.iaload, 1) := by decide +kernel
theorem dX8_cellOf_36 : decode cX8_cellOf 36 = .ok (.iload_n 2, 1) := by decide +kernel
theorem dX8_cellOf_37 : decode cX8_cellOf 37 = .ok (.imul, 1) := by decide +kernel
theorem dX8_cellOf_38 : decode cX8_cellOf 38 = .ok (.aload_n 0, 1) := by decide +kernel
theorem dX8_cellOf_39 : decode cX8_cellOf 39 = .ok (.getfield 57, 3) := by decide +kernel
theorem dX8_cellOf_42 : decode cX8_cellOf 42 = .ok (.iload 6, 2) := by decide +kernel
theorem dX8_cellOf_44 : decode cX8_cellOf 44 = .ok (.iaload, 1) := by decide +kernel
theorem dX8_cellOf_45 : decode cX8_cellOf 45 = .ok (.iload_n 3, 1) := by decide +kernel
theorem dX8_cellOf_46 : decode cX8_cellOf 46 = .ok (.imul, 1) := by decide +kernel
theorem dX8_cellOf_47 : decode cX8_cellOf 47 = .ok (.iadd, 1) := by decide +kernel
theorem dX8_cellOf_48 : decode cX8_cellOf 48 = .ok (.invokevirtual 196, 3) := by decide +kernel
theorem dX8_cellOf_51 : decode cX8_cellOf 51 = .ok (.i2l, 1) := by decide +kernel
theorem dX8_cellOf_52 : decode cX8_cellOf 52 = .ok (.lmul, 1) := by decide +kernel
theorem dX8_cellOf_53 : decode cX8_cellOf 53 = .ok (.ladd, 1) := by decide +kernel
theorem dX8_cellOf_54 : decode cX8_cellOf 54 = .ok (.lstore 4, 2) := by decide +kernel
theorem dX8_cellOf_56 : decode cX8_cellOf 56 = .ok (.iinc 6 1, 3) := by decide +kernel
theorem dX8_cellOf_59 : decode cX8_cellOf 59 = .ok (.goto (-49), 3) := by decide +kernel
theorem dX8_cellOf_62 : decode cX8_cellOf 62 = .ok (.goto 58, 3) := by decide +kernel
theorem dX8_cellOf_65 : decode cX8_cellOf 65 = .ok (.iconst 0, 1) := by decide +kernel
theorem dX8_cellOf_66 : decode cX8_cellOf 66 = .ok (.istore 6, 2) := by decide +kernel
theorem dX8_cellOf_68 : decode cX8_cellOf 68 = .ok (.iload 6, 2) := by decide +kernel
theorem dX8_cellOf_70 : decode cX8_cellOf 70 = .ok (.aload_n 0, 1) := by decide +kernel
theorem dX8_cellOf_71 : decode cX8_cellOf 71 = .ok (.getfield 218, 3) := by decide +kernel
theorem dX8_cellOf_74 : decode cX8_cellOf 74 = .ok (.if_icmp .ge 46, 3) := by decide +kernel
theorem dX8_cellOf_77 : decode cX8_cellOf 77 = .ok (.lload 4, 2) := by decide +kernel
theorem dX8_cellOf_79 : decode cX8_cellOf 79 = .ok (.aload_n 0, 1) := by decide +kernel
theorem dX8_cellOf_80 : decode cX8_cellOf 80 = .ok (.getfield 75, 3) := by decide +kernel
theorem dX8_cellOf_83 : decode cX8_cellOf 83 = .ok (.iload 6, 2) := by decide +kernel
theorem dX8_cellOf_85 : decode cX8_cellOf 85 = .ok (.iaload, 1) := by decide +kernel
theorem dX8_cellOf_86 : decode cX8_cellOf 86 = .ok (.i2l, 1) := by decide +kernel
theorem dX8_cellOf_87 : decode cX8_cellOf 87 = .ok (.aload_n 0, 1) := by decide +kernel
theorem dX8_cellOf_88 : decode cX8_cellOf 88 = .ok (.iload_n 2, 1) := by decide +kernel
theorem dX8_cellOf_89 : decode cX8_cellOf 89 = .ok (.aload_n 0, 1) := by decide +kernel
theorem dX8_cellOf_90 : decode cX8_cellOf 90 = .ok (.getfield 69, 3) := by decide +kernel
theorem dX8_cellOf_93 : decode cX8_cellOf 93 = .ok (.iload 6, 2) := by decide +kernel
theorem dX8_cellOf_95 : decode cX8_cellOf 95 = .ok (.iaload, 1) := by decide +kernel
theorem dX8_cellOf_96 : decode cX8_cellOf 96 = .ok (.isub, 1) := by decide +kernel
theorem dX8_cellOf_97 : decode cX8_cellOf 97 = .ok (.iload_n 3, 1) := by decide +kernel
theorem dX8_cellOf_98 : decode cX8_cellOf 98 = .ok (.aload_n 0, 1) := by decide +kernel
theorem dX8_cellOf_99 : decode cX8_cellOf 99 = .ok (.getfield 72, 3) := by decide +kernel
theorem dX8_cellOf_102 : decode cX8_cellOf 102 = .ok (.iload 6, 2) := by decide +kernel
theorem dX8_cellOf_104 : decode cX8_cellOf 104 = .ok (.iaload, 1) := by decide +kernel
theorem dX8_cellOf_105 : decode cX8_cellOf 105 = .ok (.isub, 1) := by decide +kernel
theorem dX8_cellOf_106 : decode cX8_cellOf 106 = .ok (.invokevirtual 209, 3) := by decide +kernel
theorem dX8_cellOf_109 : decode cX8_cellOf 109 = .ok (.i2l, 1) := by decide +kernel
theorem dX8_cellOf_110 : decode cX8_cellOf 110 = .ok (.lmul, 1) := by decide +kernel
theorem dX8_cellOf_111 : decode cX8_cellOf 111 = .ok (.ladd, 1) := by decide +kernel
theorem dX8_cellOf_112 : decode cX8_cellOf 112 = .ok (.lstore 4, 2) := by decide +kernel
theorem dX8_cellOf_114 : decode cX8_cellOf 114 = .ok (.iinc 6 1, 3) := by decide +kernel
theorem dX8_cellOf_117 : decode cX8_cellOf 117 = .ok (.goto (-49), 3) := by decide +kernel
theorem dX8_cellOf_120 : decode cX8_cellOf 120 = .ok (.lload 4, 2) := by decide +kernel
theorem dX8_cellOf_122 : decode cX8_cellOf 122 = .ok (.lreturn, 1) := by decide +kernel
theorem dX8_board_0 : decode cX8_board 0 = .ok (.iload_n 1, 1) := by decide +kernel
theorem dX8_board_1 : decode cX8_board 1 = .ok (.i2l, 1) := by decide +kernel
theorem dX8_board_2 : decode cX8_board 2 = .ok (.lconst 0, 1) := by decide +kernel
theorem dX8_board_3 : decode cX8_board 3 = .ok (.lconst 1, 1) := by decide +kernel
theorem dX8_board_4 : decode cX8_board 4 = .ok (.invokestatic 121, 3) := by decide +kernel
theorem dX8_board_7 : decode cX8_board 7 = .ok (.ifCond .ne 6, 3) := by decide +kernel
theorem dX8_board_10 : decode cX8_board 10 = .ok (.bipush (-2), 2) := by decide +kernel
theorem dX8_board_12 : decode cX8_board 12 = .ok (.ireturn, 1) := by decide +kernel
theorem dX8_board_13 : decode cX8_board 13 = .ok (.aload_n 0, 1) := by decide +kernel
theorem dX8_board_14 : decode cX8_board 14 = .ok (.invokevirtual 206, 3) := by decide +kernel
theorem dX8_board_17 : decode cX8_board 17 = .ok (.iconst 0, 1) := by decide +kernel
theorem dX8_board_18 : decode cX8_board 18 = .ok (.istore_n 2, 1) := by decide +kernel
theorem dX8_board_19 : decode cX8_board 19 = .ok (.iload_n 2, 1) := by decide +kernel
theorem dX8_board_20 : decode cX8_board 20 = .ok (.bipush 16, 2) := by decide +kernel
theorem dX8_board_22 : decode cX8_board 22 = .ok (.if_icmp .ge 41, 3) := by decide +kernel
theorem dX8_board_25 : decode cX8_board 25 = .ok (.iconst 0, 1) := by decide +kernel
theorem dX8_board_26 : decode cX8_board 26 = .ok (.istore_n 3, 1) := by decide +kernel
theorem dX8_board_27 : decode cX8_board 27 = .ok (.iload_n 3, 1) := by decide +kernel
theorem dX8_board_28 : decode cX8_board 28 = .ok (.bipush 16, 2) := by decide +kernel
theorem dX8_board_30 : decode cX8_board 30 = .ok (.if_icmp .ge 27, 3) := by decide +kernel
theorem dX8_board_33 : decode cX8_board 33 = .ok (.aload_n 0, 1) := by decide +kernel
theorem dX8_board_34 : decode cX8_board 34 = .ok (.getfield 50, 3) := by decide +kernel
theorem dX8_board_37 : decode cX8_board 37 = .ok (.bipush 16, 2) := by decide +kernel
theorem dX8_board_39 : decode cX8_board 39 = .ok (.iload_n 2, 1) := by decide +kernel
theorem dX8_board_40 : decode cX8_board 40 = .ok (.imul, 1) := by decide +kernel
theorem dX8_board_41 : decode cX8_board 41 = .ok (.iload_n 3, 1) := by decide +kernel
theorem dX8_board_42 : decode cX8_board 42 = .ok (.iadd, 1) := by decide +kernel
theorem dX8_board_43 : decode cX8_board 43 = .ok (.aload_n 0, 1) := by decide +kernel
theorem dX8_board_44 : decode cX8_board 44 = .ok (.iload_n 1, 1) := by decide +kernel
theorem dX8_board_45 : decode cX8_board 45 = .ok (.iload_n 3, 1) := by decide +kernel
theorem dX8_board_46 : decode cX8_board 46 = .ok (.iload_n 2, 1) := by decide +kernel
theorem dX8_board_47 : decode cX8_board 47 = .ok (.invokevirtual 221, 3) := by decide +kernel
theorem dX8_board_50 : decode cX8_board 50 = .ok (.lastore, 1) := by decide +kernel
theorem dX8_board_51 : decode cX8_board 51 = .ok (.iinc 3 1, 3) := by decide +kernel
theorem dX8_board_54 : decode cX8_board 54 = .ok (.goto (-27), 3) := by decide +kernel
theorem dX8_board_57 : decode cX8_board 57 = .ok (.iinc 2 1, 3) := by decide +kernel
theorem dX8_board_60 : decode cX8_board 60 = .ok (.goto (-41), 3) := by decide +kernel
theorem dX8_board_63 : decode cX8_board 63 = .ok (.aload_n 0, 1) := by decide +kernel
theorem dX8_board_64 : decode cX8_board 64 = .ok (.aload_n 0, 1) := by decide +kernel
theorem dX8_board_65 : decode cX8_board 65 = .ok (.getfield 193, 3) := by decide +kernel
theorem dX8_board_68 : decode cX8_board 68 = .ok (.putfield 199, 3) := by decide +kernel
theorem dX8_board_71 : decode cX8_board 71 = .ok (.iconst 0, 1) := by decide +kernel
theorem dX8_board_72 : decode cX8_board 72 = .ok (.istore_n 2, 1) := by decide +kernel
theorem dX8_board_73 : decode cX8_board 73 = .ok (.iload_n 2, 1) := by decide +kernel
theorem dX8_board_74 : decode cX8_board 74 = .ok (.aload_n 0, 1) := by decide +kernel
theorem dX8_board_75 : decode cX8_board 75 = .ok (.getfield 193, 3) := by decide +kernel
theorem dX8_board_78 : decode cX8_board 78 = .ok (.if_icmp .ge 33, 3) := by decide +kernel
theorem dX8_board_81 : decode cX8_board 81 = .ok (.aload_n 0, 1) := by decide +kernel
theorem dX8_board_82 : decode cX8_board 82 = .ok (.getfield 63, 3) := by decide +kernel
theorem dX8_board_85 : decode cX8_board 85 = .ok (.iload_n 2, 1) := by decide +kernel
theorem dX8_board_86 : decode cX8_board 86 = .ok (.aload_n 0, 1) := by decide +kernel
theorem dX8_board_87 : decode cX8_board 87 = .ok (.getfield 54, 3) := by decide +kernel
theorem dX8_board_90 : decode cX8_board 90 = .ok (.iload_n 2, 1) := by decide +kernel
theorem dX8_board_91 : decode cX8_board 91 = .ok (.iaload, 1) := by decide +kernel
theorem dX8_board_92 : decode cX8_board 92 = .ok (.iastore, 1) := by decide +kernel
theorem dX8_board_93 : decode cX8_board 93 = .ok (.aload_n 0, 1) := by decide +kernel
theorem dX8_board_94 : decode cX8_board 94 = .ok (.getfield 66, 3) := by decide +kernel
theorem dX8_board_97 : decode cX8_board 97 = .ok (.iload_n 2, 1) := by decide +kernel
theorem dX8_board_98 : decode cX8_board 98 = .ok (.aload_n 0, 1) := by decide +kernel
theorem dX8_board_99 : decode cX8_board 99 = .ok (.getfield 57, 3) := by decide +kernel
theorem dX8_board_102 : decode cX8_board 102 = .ok (.iload_n 2, 1) := by decide +kernel
theorem dX8_board_103 : decode cX8_board 103 = .ok (.iaload, 1) := by decide +kernel
theorem dX8_board_104 : decode cX8_board 104 = .ok (.iastore, 1) := by decide +kernel
theorem dX8_board_105 : decode cX8_board 105 = .ok (.iinc 2 1, 3) := by decide +kernel
theorem dX8_board_108 : decode cX8_board 108 = .ok (.goto (-35), 3) := by decide +kernel
theorem dX8_board_111 : decode cX8_board 111 = .ok (.aload_n 0, 1) := by decide +kernel
theorem dX8_board_112 : decode cX8_board 112 = .ok (.iconst 0, 1) := by decide +kernel
theorem dX8_board_113 : decode cX8_board 113 = .ok (.putfield 225, 3) := by decide +kernel
theorem dX8_board_116 : decode cX8_board 116 = .ok (.aload_n 0, 1) := by decide +kernel
theorem dX8_board_117 : decode cX8_board 117 = .ok (.invokevirtual 112, 3) := by decide +kernel
theorem dX8_board_120 : decode cX8_board 120 = .ok (.aload_n 0, 1) := by decide +kernel
theorem dX8_board_121 : decode cX8_board 121 = .ok (.getfield 193, 3) := by decide +kernel
theorem dX8_board_124 : decode cX8_board 124 = .ok (.ireturn, 1) := by decide +kernel
theorem dX8_at_0 : decode cX8_at 0 = .ok (.iload_n 1, 1) := by decide +kernel
theorem dX8_at_1 : decode cX8_at 1 = .ok (.iload_n 2, 1) := by decide +kernel
theorem dX8_at_2 : decode cX8_at 2 = .ok (.invokestatic 215, 3) := by decide +kernel
theorem dX8_at_5 : decode cX8_at 5 = .ok (.ifCond .eq 17, 3) := by decide +kernel
theorem dX8_at_8 : decode cX8_at 8 = .ok (.aload_n 0, 1) := by decide +kernel
theorem dX8_at_9 : decode cX8_at 9 = .ok (.getfield 50, 3) := by decide +kernel
theorem dX8_at_12 : decode cX8_at 12 = .ok (.bipush 16, 2) := by decide +kernel
theorem dX8_at_14 : decode cX8_at 14 = .ok (.iload_n 2, 1) := by decide +kernel
theorem dX8_at_15 : decode cX8_at 15 = .ok (.imul, 1) := by decide +kernel
theorem dX8_at_16 : decode cX8_at 16 = .ok (.iload_n 1, 1) := by decide +kernel
theorem dX8_at_17 : decode cX8_at 17 = .ok (.iadd, 1) := by decide +kernel
theorem dX8_at_18 : decode cX8_at 18 = .ok (.laload, 1) := by decide +kernel
theorem dX8_at_19 : decode cX8_at 19 = .ok (.goto 6, 3) := by decide +kernel
theorem dX8_at_22 : decode cX8_at 22 = .ok (.ldc2_w 175, 3) := by decide +kernel
theorem dX8_at_25 : decode cX8_at 25 = .ok (.lreturn, 1) := by decide +kernel
theorem dX8_cells_0 : decode cX8_cells 0 = .ok (.aload_n 0, 1) := by decide +kernel
theorem dX8_cells_1 : decode cX8_cells 1 = .ok (.getfield 184, 3) := by decide +kernel
theorem dX8_cells_4 : decode cX8_cells 4 = .ok (.aload_n 0, 1) := by decide +kernel
theorem dX8_cells_5 : decode cX8_cells 5 = .ok (.getfield 181, 3) := by decide +kernel
theorem dX8_cells_8 : decode cX8_cells 8 = .ok (.isub, 1) := by decide +kernel
theorem dX8_cells_9 : decode cX8_cells 9 = .ok (.iconst 1, 1) := by decide +kernel
theorem dX8_cells_10 : decode cX8_cells 10 = .ok (.iadd, 1) := by decide +kernel
theorem dX8_cells_11 : decode cX8_cells 11 = .ok (.aload_n 0, 1) := by decide +kernel
theorem dX8_cells_12 : decode cX8_cells 12 = .ok (.getfield 190, 3) := by decide +kernel
theorem dX8_cells_15 : decode cX8_cells 15 = .ok (.aload_n 0, 1) := by decide +kernel
theorem dX8_cells_16 : decode cX8_cells 16 = .ok (.getfield 187, 3) := by decide +kernel
theorem dX8_cells_19 : decode cX8_cells 19 = .ok (.isub, 1) := by decide +kernel
theorem dX8_cells_20 : decode cX8_cells 20 = .ok (.iconst 1, 1) := by decide +kernel
theorem dX8_cells_21 : decode cX8_cells 21 = .ok (.iadd, 1) := by decide +kernel
theorem dX8_cells_22 : decode cX8_cells 22 = .ok (.imul, 1) := by decide +kernel
theorem dX8_cells_23 : decode cX8_cells 23 = .ok (.ireturn, 1) := by decide +kernel
theorem dX8_window_0 : decode cX8_window 0 = .ok (.iload_n 1, 1) := by decide +kernel
theorem dX8_window_1 : decode cX8_window 1 = .ok (.iload_n 2, 1) := by decide +kernel
theorem dX8_window_2 : decode cX8_window 2 = .ok (.invokestatic 215, 3) := by decide +kernel
theorem dX8_window_5 : decode cX8_window 5 = .ok (.ifCond .eq 23, 3) := by decide +kernel
theorem dX8_window_8 : decode cX8_window 8 = .ok (.iload_n 3, 1) := by decide +kernel
theorem dX8_window_9 : decode cX8_window 9 = .ok (.iload 4, 2) := by decide +kernel
theorem dX8_window_11 : decode cX8_window 11 = .ok (.invokestatic 215, 3) := by decide +kernel
theorem dX8_window_14 : decode cX8_window 14 = .ok (.ifCond .eq 14, 3) := by decide +kernel
theorem dX8_window_17 : decode cX8_window 17 = .ok (.iload_n 1, 1) := by decide +kernel
theorem dX8_window_18 : decode cX8_window 18 = .ok (.iload_n 3, 1) := by decide +kernel
theorem dX8_window_19 : decode cX8_window 19 = .ok (.if_icmp .gt 9, 3) := by decide +kernel
theorem dX8_window_22 : decode cX8_window 22 = .ok (.iload_n 2, 1) := by decide +kernel
theorem dX8_window_23 : decode cX8_window 23 = .ok (.iload 4, 2) := by decide +kernel
theorem dX8_window_25 : decode cX8_window 25 = .ok (.if_icmp .le 6, 3) := by decide +kernel
theorem dX8_window_28 : decode cX8_window 28 = .ok (.bipush (-2), 2) := by decide +kernel
theorem dX8_window_30 : decode cX8_window 30 = .ok (.ireturn, 1) := by decide +kernel
theorem dX8_window_31 : decode cX8_window 31 = .ok (.aload_n 0, 1) := by decide +kernel
theorem dX8_window_32 : decode cX8_window 32 = .ok (.iload_n 1, 1) := by decide +kernel
theorem dX8_window_33 : decode cX8_window 33 = .ok (.putfield 181, 3) := by decide +kernel
theorem dX8_window_36 : decode cX8_window 36 = .ok (.aload_n 0, 1) := by decide +kernel
theorem dX8_window_37 : decode cX8_window 37 = .ok (.iload_n 3, 1) := by decide +kernel
theorem dX8_window_38 : decode cX8_window 38 = .ok (.putfield 184, 3) := by decide +kernel
theorem dX8_window_41 : decode cX8_window 41 = .ok (.aload_n 0, 1) := by decide +kernel
theorem dX8_window_42 : decode cX8_window 42 = .ok (.iload_n 2, 1) := by decide +kernel
theorem dX8_window_43 : decode cX8_window 43 = .ok (.putfield 187, 3) := by decide +kernel
theorem dX8_window_46 : decode cX8_window 46 = .ok (.aload_n 0, 1) := by decide +kernel
theorem dX8_window_47 : decode cX8_window 47 = .ok (.iload 4, 2) := by decide +kernel
theorem dX8_window_49 : decode cX8_window 49 = .ok (.putfield 190, 3) := by decide +kernel
theorem dX8_window_52 : decode cX8_window 52 = .ok (.aload_n 0, 1) := by decide +kernel
theorem dX8_window_53 : decode cX8_window 53 = .ok (.invokevirtual 228, 3) := by decide +kernel
theorem dX8_window_56 : decode cX8_window 56 = .ok (.ireturn, 1) := by decide +kernel
theorem dX8_amount_0 : decode cX8_amount 0 = .ok (.lload_n 0, 1) := by decide +kernel
theorem dX8_amount_1 : decode cX8_amount 1 = .ok (.lconst 0, 1) := by decide +kernel
theorem dX8_amount_2 : decode cX8_amount 2 = .ok (.lcmp, 1) := by decide +kernel
theorem dX8_amount_3 : decode cX8_amount 3 = .ok (.ifCond .ge 8, 3) := by decide +kernel
theorem dX8_amount_6 : decode cX8_amount 6 = .ok (.lload_n 0, 1) := by decide +kernel
theorem dX8_amount_7 : decode cX8_amount 7 = .ok (.lneg, 1) := by decide +kernel
theorem dX8_amount_8 : decode cX8_amount 8 = .ok (.goto 4, 3) := by decide +kernel
theorem dX8_amount_11 : decode cX8_amount 11 = .ok (.lload_n 0, 1) := by decide +kernel
theorem dX8_amount_12 : decode cX8_amount 12 = .ok (.lreturn, 1) := by decide +kernel
theorem dX8_peak_0 : decode cX8_peak 0 = .ok (.bipush 16, 2) := by decide +kernel
theorem dX8_peak_2 : decode cX8_peak 2 = .ok (.aload_n 0, 1) := by decide +kernel
theorem dX8_peak_3 : decode cX8_peak 3 = .ok (.getfield 187, 3) := by decide +kernel
theorem dX8_peak_6 : decode cX8_peak 6 = .ok (.imul, 1) := by decide +kernel
theorem dX8_peak_7 : decode cX8_peak 7 = .ok (.aload_n 0, 1) := by decide +kernel
theorem dX8_peak_8 : decode cX8_peak 8 = .ok (.getfield 181, 3) := by decide +kernel
theorem dX8_peak_11 : decode cX8_peak 11 = .ok (.iadd, 1) := by decide +kernel
theorem dX8_peak_12 : decode cX8_peak 12 = .ok (.istore_n 1, 1) := by decide +kernel
theorem dX8_peak_13 : decode cX8_peak 13 = .ok (.aload_n 0, 1) := by decide +kernel
theorem dX8_peak_14 : decode cX8_peak 14 = .ok (.getfield 187, 3) := by decide +kernel
theorem dX8_peak_17 : decode cX8_peak 17 = .ok (.istore_n 2, 1) := by decide +kernel
theorem dX8_peak_18 : decode cX8_peak 18 = .ok (.iload_n 2, 1) := by decide +kernel
theorem dX8_peak_19 : decode cX8_peak 19 = .ok (.aload_n 0, 1) := by decide +kernel
theorem dX8_peak_20 : decode cX8_peak 20 = .ok (.getfield 190, 3) := by decide +kernel
theorem dX8_peak_23 : decode cX8_peak 23 = .ok (.if_icmp .gt 66, 3) := by decide +kernel
theorem dX8_peak_26 : decode cX8_peak 26 = .ok (.aload_n 0, 1) := by decide +kernel
theorem dX8_peak_27 : decode cX8_peak 27 = .ok (.getfield 181, 3) := by decide +kernel
theorem dX8_peak_30 : decode cX8_peak 30 = .ok (.istore_n 3, 1) := by decide +kernel
theorem dX8_peak_31 : decode cX8_peak 31 = .ok (.iload_n 3, 1) := by decide +kernel
theorem dX8_peak_32 : decode cX8_peak 32 = .ok (.aload_n 0, 1) := by decide +kernel
theorem dX8_peak_33 : decode cX8_peak 33 = .ok (.getfield 184, 3) := by decide +kernel
theorem dX8_peak_36 : decode cX8_peak 36 = .ok (.if_icmp .gt 47, 3) := by decide +kernel
theorem dX8_peak_39 : decode cX8_peak 39 = .ok (.aload_n 0, 1) := by decide +kernel
theorem dX8_peak_40 : decode cX8_peak 40 = .ok (.getfield 50, 3) := by decide +kernel
theorem dX8_peak_43 : decode cX8_peak 43 = .ok (.bipush 16, 2) := by decide +kernel
theorem dX8_peak_45 : decode cX8_peak 45 = .ok (.iload_n 2, 1) := by decide +kernel
theorem dX8_peak_46 : decode cX8_peak 46 = .ok (.imul, 1) := by decide +kernel
theorem dX8_peak_47 : decode cX8_peak 47 = .ok (.iload_n 3, 1) := by decide +kernel
theorem dX8_peak_48 : decode cX8_peak 48 = .ok (.iadd, 1) := by decide +kernel
theorem dX8_peak_49 : decode cX8_peak 49 = .ok (.laload, 1) := by decide +kernel
theorem dX8_peak_50 : decode cX8_peak 50 = .ok (.invokestatic 232, 3) := by decide +kernel
theorem dX8_peak_53 : decode cX8_peak 53 = .ok (.aload_n 0, 1) := by decide +kernel
theorem dX8_peak_54 : decode cX8_peak 54 = .ok (.getfield 50, 3) := by decide +kernel
theorem dX8_peak_57 : decode cX8_peak 57 = .ok (.iload_n 1, 1) := by decide +kernel
theorem dX8_peak_58 : decode cX8_peak 58 = .ok (.laload, 1) := by decide +kernel
theorem dX8_peak_59 : decode cX8_peak 59 = .ok (.invokestatic 232, 3) := by decide +kernel
theorem dX8_peak_62 : decode cX8_peak 62 = .ok (.lcmp, 1) := by decide +kernel
theorem dX8_peak_63 : decode cX8_peak 63 = .ok (.ifCond .le 12, 3) := by decide +kernel
theorem dX8_peak_66 : decode cX8_peak 66 = .ok (.bipush 16, 2) := by decide +kernel
theorem dX8_peak_68 : decode cX8_peak 68 = .ok (.iload_n 2, 1) := by decide +kernel
theorem dX8_peak_69 : decode cX8_peak 69 = .ok (.imul, 1) := by decide +kernel
theorem dX8_peak_70 : decode cX8_peak 70 = .ok (.iload_n 3, 1) := by decide +kernel
theorem dX8_peak_71 : decode cX8_peak 71 = .ok (.iadd, 1) := by decide +kernel
theorem dX8_peak_72 : decode cX8_peak 72 = .ok (.goto 4, 3) := by decide +kernel
theorem dX8_peak_75 : decode cX8_peak 75 = .ok (.iload_n 1, 1) := by decide +kernel
theorem dX8_peak_76 : decode cX8_peak 76 = .ok (.istore_n 1, 1) := by decide +kernel
theorem dX8_peak_77 : decode cX8_peak 77 = .ok (.iinc 3 1, 3) := by decide +kernel
theorem dX8_peak_80 : decode cX8_peak 80 = .ok (.goto (-49), 3) := by decide +kernel
theorem dX8_peak_83 : decode cX8_peak 83 = .ok (.iinc 2 1, 3) := by decide +kernel
theorem dX8_peak_86 : decode cX8_peak 86 = .ok (.goto (-68), 3) := by decide +kernel
theorem dX8_peak_89 : decode cX8_peak 89 = .ok (.iload_n 1, 1) := by decide +kernel
theorem dX8_peak_90 : decode cX8_peak 90 = .ok (.ireturn, 1) := by decide +kernel
theorem dX8_lays_0 : decode cX8_lays 0 = .ok (.iconst 0, 1) := by decide +kernel
theorem dX8_lays_1 : decode cX8_lays 1 = .ok (.istore 4, 2) := by decide +kernel
theorem dX8_lays_3 : decode cX8_lays 3 = .ok (.iload 4, 2) := by decide +kernel
theorem dX8_lays_5 : decode cX8_lays 5 = .ok (.bipush 16, 2) := by decide +kernel
theorem dX8_lays_7 : decode cX8_lays 7 = .ok (.if_icmp .ge 62, 3) := by decide +kernel
theorem dX8_lays_10 : decode cX8_lays 10 = .ok (.iconst 0, 1) := by decide +kernel
theorem dX8_lays_11 : decode cX8_lays 11 = .ok (.istore 5, 2) := by decide +kernel
theorem dX8_lays_13 : decode cX8_lays 13 = .ok (.iload 5, 2) := by decide +kernel
theorem dX8_lays_15 : decode cX8_lays 15 = .ok (.bipush 16, 2) := by decide +kernel
theorem dX8_lays_17 : decode cX8_lays 17 = .ok (.if_icmp .ge 46, 3) := by decide +kernel
theorem dX8_lays_20 : decode cX8_lays 20 = .ok (.aload_n 0, 1) := by decide +kernel
theorem dX8_lays_21 : decode cX8_lays 21 = .ok (.getfield 50, 3) := by decide +kernel
theorem dX8_lays_24 : decode cX8_lays 24 = .ok (.bipush 16, 2) := by decide +kernel
theorem dX8_lays_26 : decode cX8_lays 26 = .ok (.iload 4, 2) := by decide +kernel
theorem dX8_lays_28 : decode cX8_lays 28 = .ok (.imul, 1) := by decide +kernel
theorem dX8_lays_29 : decode cX8_lays 29 = .ok (.iload 5, 2) := by decide +kernel
theorem dX8_lays_31 : decode cX8_lays 31 = .ok (.iadd, 1) := by decide +kernel
theorem dX8_lays_32 : decode cX8_lays 32 = .ok (.dup2, 1) := by decide +kernel
theorem dX8_lays_33 : decode cX8_lays 33 = .ok (.laload, 1) := by decide +kernel
theorem dX8_lays_34 : decode cX8_lays 34 = .ok (.lload_n 2, 1) := by decide +kernel
theorem dX8_lays_35 : decode cX8_lays 35 = .ok (.aload_n 0, 1) := by decide +kernel
theorem dX8_lays_36 : decode cX8_lays 36 = .ok (.iload 5, 2) := by decide +kernel
theorem dX8_lays_38 : decode cX8_lays 38 = .ok (.iload_n 1, 1) := by decide +kernel
theorem dX8_lays_39 : decode cX8_lays 39 = .ok (.bipush 16, 2) := by decide +kernel
theorem dX8_lays_41 : decode cX8_lays 41 = .ok (.irem, 1) := by decide +kernel
theorem dX8_lays_42 : decode cX8_lays 42 = .ok (.isub, 1) := by decide +kernel
theorem dX8_lays_43 : decode cX8_lays 43 = .ok (.iload 4, 2) := by decide +kernel
theorem dX8_lays_45 : decode cX8_lays 45 = .ok (.iload_n 1, 1) := by decide +kernel
theorem dX8_lays_46 : decode cX8_lays 46 = .ok (.bipush 16, 2) := by decide +kernel
theorem dX8_lays_48 : decode cX8_lays 48 = .ok (.idiv, 1) := by decide +kernel
theorem dX8_lays_49 : decode cX8_lays 49 = .ok (.isub, 1) := by decide +kernel
theorem dX8_lays_50 : decode cX8_lays 50 = .ok (.invokevirtual 236, 3) := by decide +kernel
theorem dX8_lays_53 : decode cX8_lays 53 = .ok (.i2l, 1) := by decide +kernel
theorem dX8_lays_54 : decode cX8_lays 54 = .ok (.lmul, 1) := by decide +kernel
theorem dX8_lays_55 : decode cX8_lays 55 = .ok (.ladd, 1) := by decide +kernel
theorem dX8_lays_56 : decode cX8_lays 56 = .ok (.lastore, 1) := by decide +kernel
theorem dX8_lays_57 : decode cX8_lays 57 = .ok (.iinc 5 1, 3) := by decide +kernel
theorem dX8_lays_60 : decode cX8_lays 60 = .ok (.goto (-47), 3) := by decide +kernel
theorem dX8_lays_63 : decode cX8_lays 63 = .ok (.iinc 4 1, 3) := by decide +kernel
theorem dX8_lays_66 : decode cX8_lays 66 = .ok (.goto (-63), 3) := by decide +kernel
theorem dX8_lays_69 : decode cX8_lays 69 = .ok (.return_, 1) := by decide +kernel
theorem dX8_take_0 : decode cX8_take 0 = .ok (.iload_n 1, 1) := by decide +kernel
theorem dX8_take_1 : decode cX8_take 1 = .ok (.i2l, 1) := by decide +kernel
theorem dX8_take_2 : decode cX8_take 2 = .ok (.lconst 1, 1) := by decide +kernel
theorem dX8_take_3 : decode cX8_take 3 = .ok (.ldc2_w 127, 3) := by decide +kernel
theorem dX8_take_6 : decode cX8_take 6 = .ok (.invokestatic 121, 3) := by decide +kernel
theorem dX8_take_9 : decode cX8_take 9 = .ok (.ifCond .eq 15, 3) := by decide +kernel
theorem dX8_take_12 : decode cX8_take 12 = .ok (.iload_n 2, 1) := by decide +kernel
theorem dX8_take_13 : decode cX8_take 13 = .ok (.i2l, 1) := by decide +kernel
theorem dX8_take_14 : decode cX8_take 14 = .ok (.lconst 1, 1) := by decide +kernel
theorem dX8_take_15 : decode cX8_take 15 = .ok (.ldc2_w 239, 3) := by decide +kernel
theorem dX8_take_18 : decode cX8_take 18 = .ok (.invokestatic 121, 3) := by decide +kernel
theorem dX8_take_21 : decode cX8_take 21 = .ok (.ifCond .ne 6, 3) := by decide +kernel
theorem dX8_take_24 : decode cX8_take 24 = .ok (.bipush (-2), 2) := by decide +kernel
theorem dX8_take_26 : decode cX8_take 26 = .ok (.ireturn, 1) := by decide +kernel
theorem dX8_take_27 : decode cX8_take 27 = .ok (.aload_n 0, 1) := by decide +kernel
theorem dX8_take_28 : decode cX8_take 28 = .ok (.getfield 225, 3) := by decide +kernel
theorem dX8_take_31 : decode cX8_take 31 = .ok (.sipush 200, 3) := by decide +kernel
theorem dX8_take_34 : decode cX8_take 34 = .ok (.if_icmp .ne 6, 3) := by decide +kernel
theorem dX8_take_37 : decode cX8_take 37 = .ok (.bipush (-3), 2) := by decide +kernel
theorem dX8_take_39 : decode cX8_take 39 = .ok (.ireturn, 1) := by decide +kernel
theorem dX8_take_40 : decode cX8_take 40 = .ok (.iconst 0, 1) := by decide +kernel
theorem dX8_take_41 : decode cX8_take 41 = .ok (.istore_n 3, 1) := by decide +kernel
theorem dX8_take_42 : decode cX8_take 42 = .ok (.iload_n 3, 1) := by decide +kernel
theorem dX8_take_43 : decode cX8_take 43 = .ok (.iload_n 2, 1) := by decide +kernel
theorem dX8_take_44 : decode cX8_take 44 = .ok (.if_icmp .ge 117, 3) := by decide +kernel
theorem dX8_take_47 : decode cX8_take 47 = .ok (.aload_n 0, 1) := by decide +kernel
theorem dX8_take_48 : decode cX8_take 48 = .ok (.getfield 225, 3) := by decide +kernel
theorem dX8_take_51 : decode cX8_take 51 = .ok (.sipush 200, 3) := by decide +kernel
theorem dX8_take_54 : decode cX8_take 54 = .ok (.if_icmp .ge 107, 3) := by decide +kernel
theorem dX8_take_57 : decode cX8_take 57 = .ok (.aload_n 0, 1) := by decide +kernel
theorem dX8_take_58 : decode cX8_take 58 = .ok (.invokevirtual 241, 3) := by decide +kernel
theorem dX8_take_61 : decode cX8_take 61 = .ok (.istore 4, 2) := by decide +kernel
theorem dX8_take_63 : decode cX8_take 63 = .ok (.ldc2_w 127, 3) := by decide +kernel
theorem dX8_take_66 : decode cX8_take 66 = .ok (.aload_n 0, 1) := by decide +kernel
theorem dX8_take_67 : decode cX8_take 67 = .ok (.iconst 0, 1) := by decide +kernel
theorem dX8_take_68 : decode cX8_take 68 = .ok (.iconst 0, 1) := by decide +kernel
theorem dX8_take_69 : decode cX8_take 69 = .ok (.invokevirtual 236, 3) := by decide +kernel
theorem dX8_take_72 : decode cX8_take 72 = .ok (.i2l, 1) := by decide +kernel
theorem dX8_take_73 : decode cX8_take 73 = .ok (.lmul, 1) := by decide +kernel
theorem dX8_take_74 : decode cX8_take 74 = .ok (.lstore 5, 2) := by decide +kernel
theorem dX8_take_76 : decode cX8_take 76 = .ok (.lload 5, 2) := by decide +kernel
theorem dX8_take_78 : decode cX8_take 78 = .ok (.lconst 0, 1) := by decide +kernel
theorem dX8_take_79 : decode cX8_take 79 = .ok (.lcmp, 1) := by decide +kernel
theorem dX8_take_80 : decode cX8_take 80 = .ok (.ifCond .ne 7, 3) := by decide +kernel
theorem dX8_take_83 : decode cX8_take 83 = .ok (.lconst 0, 1) := by decide +kernel
theorem dX8_take_84 : decode cX8_take 84 = .ok (.goto 16, 3) := by decide +kernel
theorem dX8_take_87 : decode cX8_take 87 = .ok (.aload_n 0, 1) := by decide +kernel
theorem dX8_take_88 : decode cX8_take 88 = .ok (.getfield 50, 3) := by decide +kernel
theorem dX8_take_91 : decode cX8_take 91 = .ok (.iload 4, 2) := by decide +kernel
theorem dX8_take_93 : decode cX8_take 93 = .ok (.laload, 1) := by decide +kernel
theorem dX8_take_94 : decode cX8_take 94 = .ok (.iload_n 1, 1) := by decide +kernel
theorem dX8_take_95 : decode cX8_take 95 = .ok (.i2l, 1) := by decide +kernel
theorem dX8_take_96 : decode cX8_take 96 = .ok (.lmul, 1) := by decide +kernel
theorem dX8_take_97 : decode cX8_take 97 = .ok (.lload 5, 2) := by decide +kernel
theorem dX8_take_99 : decode cX8_take 99 = .ok (.ldiv, 1) := by decide +kernel
theorem dX8_take_100 : decode cX8_take 100 = .ok (.lstore 7, 2) := by decide +kernel
theorem dX8_take_102 : decode cX8_take 102 = .ok (.lload 7, 2) := by decide +kernel
theorem dX8_take_104 : decode cX8_take 104 = .ok (.lconst 0, 1) := by decide +kernel
theorem dX8_take_105 : decode cX8_take 105 = .ok (.lcmp, 1) := by decide +kernel
theorem dX8_take_106 : decode cX8_take 106 = .ok (.ifCond .ne 8, 3) := by decide +kernel
theorem dX8_take_109 : decode cX8_take 109 = .ok (.aload_n 0, 1) := by decide +kernel
theorem dX8_take_110 : decode cX8_take 110 = .ok (.getfield 225, 3) := by decide +kernel
theorem dX8_take_113 : decode cX8_take 113 = .ok (.ireturn, 1) := by decide +kernel
theorem dX8_take_114 : decode cX8_take 114 = .ok (.aload_n 0, 1) := by decide +kernel
theorem dX8_take_115 : decode cX8_take 115 = .ok (.iload 4, 2) := by decide +kernel
theorem dX8_take_117 : decode cX8_take 117 = .ok (.lload 7, 2) := by decide +kernel
theorem dX8_take_119 : decode cX8_take 119 = .ok (.lneg, 1) := by decide +kernel
theorem dX8_take_120 : decode cX8_take 120 = .ok (.invokevirtual 244, 3) := by decide +kernel
theorem dX8_take_123 : decode cX8_take 123 = .ok (.aload_n 0, 1) := by decide +kernel
theorem dX8_take_124 : decode cX8_take 124 = .ok (.getfield 78, 3) := by decide +kernel
theorem dX8_take_127 : decode cX8_take 127 = .ok (.aload_n 0, 1) := by decide +kernel
theorem dX8_take_128 : decode cX8_take 128 = .ok (.getfield 225, 3) := by decide +kernel
theorem dX8_take_131 : decode cX8_take 131 = .ok (.iload 4, 2) := by decide +kernel
theorem dX8_take_133 : decode cX8_take 133 = .ok (.iastore, 1) := by decide +kernel
theorem dX8_take_134 : decode cX8_take 134 = .ok (.aload_n 0, 1) := by decide +kernel
theorem dX8_take_135 : decode cX8_take 135 = .ok (.getfield 81, 3) := by decide +kernel
theorem dX8_take_138 : decode cX8_take 138 = .ok (.aload_n 0, 1) := by decide +kernel
theorem dX8_take_139 : decode cX8_take 139 = .ok (.getfield 225, 3) := by decide +kernel
theorem dX8_take_142 : decode cX8_take 142 = .ok (.lload 7, 2) := by decide +kernel
theorem dX8_take_144 : decode cX8_take 144 = .ok (.lastore, 1) := by decide +kernel
theorem dX8_take_145 : decode cX8_take 145 = .ok (.aload_n 0, 1) := by decide +kernel
theorem dX8_take_146 : decode cX8_take 146 = .ok (.dup, 1) := by decide +kernel
theorem dX8_take_147 : decode cX8_take 147 = .ok (.getfield 225, 3) := by decide +kernel
theorem dX8_take_150 : decode cX8_take 150 = .ok (.iconst 1, 1) := by decide +kernel
theorem dX8_take_151 : decode cX8_take 151 = .ok (.iadd, 1) := by decide +kernel
theorem dX8_take_152 : decode cX8_take 152 = .ok (.putfield 225, 3) := by decide +kernel
theorem dX8_take_155 : decode cX8_take 155 = .ok (.iinc 3 1, 3) := by decide +kernel
theorem dX8_take_158 : decode cX8_take 158 = .ok (.goto (-116), 3) := by decide +kernel
theorem dX8_take_161 : decode cX8_take 161 = .ok (.aload_n 0, 1) := by decide +kernel
theorem dX8_take_162 : decode cX8_take 162 = .ok (.getfield 225, 3) := by decide +kernel
theorem dX8_take_165 : decode cX8_take 165 = .ok (.ireturn, 1) := by decide +kernel
theorem dX8_part_0 : decode cX8_part 0 = .ok (.iload_n 1, 1) := by decide +kernel
theorem dX8_part_1 : decode cX8_part 1 = .ok (.i2l, 1) := by decide +kernel
theorem dX8_part_2 : decode cX8_part 2 = .ok (.lconst 0, 1) := by decide +kernel
theorem dX8_part_3 : decode cX8_part 3 = .ok (.aload_n 0, 1) := by decide +kernel
theorem dX8_part_4 : decode cX8_part 4 = .ok (.getfield 225, 3) := by decide +kernel
theorem dX8_part_7 : decode cX8_part 7 = .ok (.iconst 1, 1) := by decide +kernel
theorem dX8_part_8 : decode cX8_part 8 = .ok (.isub, 1) := by decide +kernel
theorem dX8_part_9 : decode cX8_part 9 = .ok (.i2l, 1) := by decide +kernel
theorem dX8_part_10 : decode cX8_part 10 = .ok (.invokestatic 121, 3) := by decide +kernel
theorem dX8_part_13 : decode cX8_part 13 = .ok (.ifCond .eq 13, 3) := by decide +kernel
theorem dX8_part_16 : decode cX8_part 16 = .ok (.iload_n 2, 1) := by decide +kernel
theorem dX8_part_17 : decode cX8_part 17 = .ok (.i2l, 1) := by decide +kernel
theorem dX8_part_18 : decode cX8_part 18 = .ok (.lconst 0, 1) := by decide +kernel
theorem dX8_part_19 : decode cX8_part 19 = .ok (.lconst 1, 1) := by decide +kernel
theorem dX8_part_20 : decode cX8_part 20 = .ok (.invokestatic 121, 3) := by decide +kernel
theorem dX8_part_23 : decode cX8_part 23 = .ok (.ifCond .ne 7, 3) := by decide +kernel
theorem dX8_part_26 : decode cX8_part 26 = .ok (.ldc2_w 175, 3) := by decide +kernel
theorem dX8_part_29 : decode cX8_part 29 = .ok (.lreturn, 1) := by decide +kernel
theorem dX8_part_30 : decode cX8_part 30 = .ok (.iload_n 2, 1) := by decide +kernel
theorem dX8_part_31 : decode cX8_part 31 = .ok (.ifCond .ne 13, 3) := by decide +kernel
theorem dX8_part_34 : decode cX8_part 34 = .ok (.aload_n 0, 1) := by decide +kernel
theorem dX8_part_35 : decode cX8_part 35 = .ok (.getfield 78, 3) := by decide +kernel
theorem dX8_part_38 : decode cX8_part 38 = .ok (.iload_n 1, 1) := by decide +kernel
theorem dX8_part_39 : decode cX8_part 39 = .ok (.iaload, 1) := by decide +kernel
theorem dX8_part_40 : decode cX8_part 40 = .ok (.i2l, 1) := by decide +kernel
theorem dX8_part_41 : decode cX8_part 41 = .ok (.goto 9, 3) := by decide +kernel
theorem dX8_part_44 : decode cX8_part 44 = .ok (.aload_n 0, 1) := by decide +kernel
theorem dX8_part_45 : decode cX8_part 45 = .ok (.getfield 81, 3) := by decide +kernel
theorem dX8_part_48 : decode cX8_part 48 = .ok (.iload_n 1, 1) := by decide +kernel
theorem dX8_part_49 : decode cX8_part 49 = .ok (.laload, 1) := by decide +kernel
theorem dX8_part_50 : decode cX8_part 50 = .ok (.lreturn, 1) := by decide +kernel
theorem dX8_back_0 : decode cX8_back 0 = .ok (.aload_n 0, 1) := by decide +kernel
theorem dX8_back_1 : decode cX8_back 1 = .ok (.getfield 225, 3) := by decide +kernel
theorem dX8_back_4 : decode cX8_back 4 = .ok (.ifCond .ne 6, 3) := by decide +kernel
theorem dX8_back_7 : decode cX8_back 7 = .ok (.bipush (-4), 2) := by decide +kernel
theorem dX8_back_9 : decode cX8_back 9 = .ok (.ireturn, 1) := by decide +kernel
theorem dX8_back_10 : decode cX8_back 10 = .ok (.aload_n 0, 1) := by decide +kernel
theorem dX8_back_11 : decode cX8_back 11 = .ok (.dup, 1) := by decide +kernel
theorem dX8_back_12 : decode cX8_back 12 = .ok (.getfield 225, 3) := by decide +kernel
theorem dX8_back_15 : decode cX8_back 15 = .ok (.iconst 1, 1) := by decide +kernel
theorem dX8_back_16 : decode cX8_back 16 = .ok (.isub, 1) := by decide +kernel
theorem dX8_back_17 : decode cX8_back 17 = .ok (.putfield 225, 3) := by decide +kernel
theorem dX8_back_20 : decode cX8_back 20 = .ok (.aload_n 0, 1) := by decide +kernel
theorem dX8_back_21 : decode cX8_back 21 = .ok (.aload_n 0, 1) := by decide +kernel
theorem dX8_back_22 : decode cX8_back 22 = .ok (.getfield 78, 3) := by decide +kernel
theorem dX8_back_25 : decode cX8_back 25 = .ok (.aload_n 0, 1) := by decide +kernel
theorem dX8_back_26 : decode cX8_back 26 = .ok (.getfield 225, 3) := by decide +kernel
theorem dX8_back_29 : decode cX8_back 29 = .ok (.iaload, 1) := by decide +kernel
theorem dX8_back_30 : decode cX8_back 30 = .ok (.aload_n 0, 1) := by decide +kernel
theorem dX8_back_31 : decode cX8_back 31 = .ok (.getfield 81, 3) := by decide +kernel
theorem dX8_back_34 : decode cX8_back 34 = .ok (.aload_n 0, 1) := by decide +kernel
theorem dX8_back_35 : decode cX8_back 35 = .ok (.getfield 225, 3) := by decide +kernel
theorem dX8_back_38 : decode cX8_back 38 = .ok (.laload, 1) := by decide +kernel
theorem dX8_back_39 : decode cX8_back 39 = .ok (.invokevirtual 244, 3) := by decide +kernel
theorem dX8_back_42 : decode cX8_back 42 = .ok (.aload_n 0, 1) := by decide +kernel
theorem dX8_back_43 : decode cX8_back 43 = .ok (.getfield 225, 3) := by decide +kernel
theorem dX8_back_46 : decode cX8_back 46 = .ok (.ireturn, 1) := by decide +kernel
theorem dX8_source_0 : decode cX8_source 0 = .ok (.iload_n 1, 1) := by decide +kernel
theorem dX8_source_1 : decode cX8_source 1 = .ok (.i2l, 1) := by decide +kernel
theorem dX8_source_2 : decode cX8_source 2 = .ok (.lconst 0, 1) := by decide +kernel
theorem dX8_source_3 : decode cX8_source 3 = .ok (.ldc2_w 248, 3) := by decide +kernel
theorem dX8_source_6 : decode cX8_source 6 = .ok (.invokestatic 121, 3) := by decide +kernel
theorem dX8_source_9 : decode cX8_source 9 = .ok (.ifCond .eq 19, 3) := by decide +kernel
theorem dX8_source_12 : decode cX8_source 12 = .ok (.iload_n 2, 1) := by decide +kernel
theorem dX8_source_13 : decode cX8_source 13 = .ok (.ifCond .lt 15, 3) := by decide +kernel
theorem dX8_source_16 : decode cX8_source 16 = .ok (.iload_n 2, 1) := by decide +kernel
theorem dX8_source_17 : decode cX8_source 17 = .ok (.iload_n 3, 1) := by decide +kernel
theorem dX8_source_18 : decode cX8_source 18 = .ok (.if_icmp .ge 10, 3) := by decide +kernel
theorem dX8_source_21 : decode cX8_source 21 = .ok (.iload_n 3, 1) := by decide +kernel
theorem dX8_source_22 : decode cX8_source 22 = .ok (.sipush 1440, 3) := by decide +kernel
theorem dX8_source_25 : decode cX8_source 25 = .ok (.if_icmp .le 6, 3) := by decide +kernel
theorem dX8_source_28 : decode cX8_source 28 = .ok (.bipush (-2), 2) := by decide +kernel
theorem dX8_source_30 : decode cX8_source 30 = .ok (.ireturn, 1) := by decide +kernel
theorem dX8_source_31 : decode cX8_source 31 = .ok (.aload_n 0, 1) := by decide +kernel
theorem dX8_source_32 : decode cX8_source 32 = .ok (.getfield 84, 3) := by decide +kernel
theorem dX8_source_35 : decode cX8_source 35 = .ok (.iload_n 1, 1) := by decide +kernel
theorem dX8_source_36 : decode cX8_source 36 = .ok (.iconst 1, 1) := by decide +kernel
theorem dX8_source_37 : decode cX8_source 37 = .ok (.bastore, 1) := by decide +kernel
theorem dX8_source_38 : decode cX8_source 38 = .ok (.aload_n 0, 1) := by decide +kernel
theorem dX8_source_39 : decode cX8_source 39 = .ok (.getfield 87, 3) := by decide +kernel
theorem dX8_source_42 : decode cX8_source 42 = .ok (.iload_n 1, 1) := by decide +kernel
theorem dX8_source_43 : decode cX8_source 43 = .ok (.iload_n 2, 1) := by decide +kernel
theorem dX8_source_44 : decode cX8_source 44 = .ok (.iastore, 1) := by decide +kernel
theorem dX8_source_45 : decode cX8_source 45 = .ok (.aload_n 0, 1) := by decide +kernel
theorem dX8_source_46 : decode cX8_source 46 = .ok (.getfield 90, 3) := by decide +kernel
theorem dX8_source_49 : decode cX8_source 49 = .ok (.iload_n 1, 1) := by decide +kernel
theorem dX8_source_50 : decode cX8_source 50 = .ok (.iload_n 3, 1) := by decide +kernel
theorem dX8_source_51 : decode cX8_source 51 = .ok (.iastore, 1) := by decide +kernel
theorem dX8_source_52 : decode cX8_source 52 = .ok (.iconst 1, 1) := by decide +kernel
theorem dX8_source_53 : decode cX8_source 53 = .ok (.ireturn, 1) := by decide +kernel
theorem dX8_isOrder_0 : decode cX8_isOrder 0 = .ok (.iload_n 1, 1) := by decide +kernel
theorem dX8_isOrder_1 : decode cX8_isOrder 1 = .ok (.tableswitch 165 0 4 #[35, 57, 79, 109, 143], 35) := by decide +kernel
theorem dX8_isOrder_36 : decode cX8_isOrder 36 = .ok (.iload_n 2, 1) := by decide +kernel
theorem dX8_isOrder_37 : decode cX8_isOrder 37 = .ok (.i2l, 1) := by decide +kernel
theorem dX8_isOrder_38 : decode cX8_isOrder 38 = .ok (.lconst 0, 1) := by decide +kernel
theorem dX8_isOrder_39 : decode cX8_isOrder 39 = .ok (.ldc2_w 250, 3) := by decide +kernel
theorem dX8_isOrder_42 : decode cX8_isOrder 42 = .ok (.invokestatic 121, 3) := by decide +kernel
theorem dX8_isOrder_45 : decode cX8_isOrder 45 = .ok (.ifCond .eq 11, 3) := by decide +kernel
theorem dX8_isOrder_48 : decode cX8_isOrder 48 = .ok (.iload_n 3, 1) := by decide +kernel
theorem dX8_isOrder_49 : decode cX8_isOrder 49 = .ok (.ifCond .ne 7, 3) := by decide +kernel
theorem dX8_isOrder_52 : decode cX8_isOrder 52 = .ok (.iconst 1, 1) := by decide +kernel
theorem dX8_isOrder_53 : decode cX8_isOrder 53 = .ok (.goto 4, 3) := by decide +kernel
theorem dX8_isOrder_56 : decode cX8_isOrder 56 = .ok (.iconst 0, 1) := by decide +kernel
theorem dX8_isOrder_57 : decode cX8_isOrder 57 = .ok (.ireturn, 1) := by decide +kernel
theorem dX8_isOrder_58 : decode cX8_isOrder 58 = .ok (.iload_n 2, 1) := by decide +kernel
theorem dX8_isOrder_59 : decode cX8_isOrder 59 = .ok (.i2l, 1) := by decide +kernel
theorem dX8_isOrder_60 : decode cX8_isOrder 60 = .ok (.lconst 0, 1) := by decide +kernel
theorem dX8_isOrder_61 : decode cX8_isOrder 61 = .ok (.ldc2_w 252, 3) := by decide +kernel
theorem dX8_isOrder_64 : decode cX8_isOrder 64 = .ok (.invokestatic 121, 3) := by decide +kernel
theorem dX8_isOrder_67 : decode cX8_isOrder 67 = .ok (.ifCond .eq 11, 3) := by decide +kernel
theorem dX8_isOrder_70 : decode cX8_isOrder 70 = .ok (.iload_n 3, 1) := by decide +kernel
theorem dX8_isOrder_71 : decode cX8_isOrder 71 = .ok (.ifCond .ne 7, 3) := by decide +kernel
theorem dX8_isOrder_74 : decode cX8_isOrder 74 = .ok (.iconst 1, 1) := by decide +kernel
theorem dX8_isOrder_75 : decode cX8_isOrder 75 = .ok (.goto 4, 3) := by decide +kernel
theorem dX8_isOrder_78 : decode cX8_isOrder 78 = .ok (.iconst 0, 1) := by decide +kernel
theorem dX8_isOrder_79 : decode cX8_isOrder 79 = .ok (.ireturn, 1) := by decide +kernel
theorem dX8_isOrder_80 : decode cX8_isOrder 80 = .ok (.iload_n 2, 1) := by decide +kernel
theorem dX8_isOrder_81 : decode cX8_isOrder 81 = .ok (.i2l, 1) := by decide +kernel
theorem dX8_isOrder_82 : decode cX8_isOrder 82 = .ok (.lconst 1, 1) := by decide +kernel
theorem dX8_isOrder_83 : decode cX8_isOrder 83 = .ok (.ldc2_w 250, 3) := by decide +kernel
theorem dX8_isOrder_86 : decode cX8_isOrder 86 = .ok (.invokestatic 121, 3) := by decide +kernel
theorem dX8_isOrder_89 : decode cX8_isOrder 89 = .ok (.ifCond .eq 19, 3) := by decide +kernel
theorem dX8_isOrder_92 : decode cX8_isOrder 92 = .ok (.iload_n 3, 1) := by decide +kernel
theorem dX8_isOrder_93 : decode cX8_isOrder 93 = .ok (.i2l, 1) := by decide +kernel
theorem dX8_isOrder_94 : decode cX8_isOrder 94 = .ok (.lconst 0, 1) := by decide +kernel
theorem dX8_isOrder_95 : decode cX8_isOrder 95 = .ok (.ldc2_w 248, 3) := by decide +kernel
theorem dX8_isOrder_98 : decode cX8_isOrder 98 = .ok (.invokestatic 121, 3) := by decide +kernel
theorem dX8_isOrder_101 : decode cX8_isOrder 101 = .ok (.ifCond .eq 7, 3) := by decide +kernel
theorem dX8_isOrder_104 : decode cX8_isOrder 104 = .ok (.iconst 1, 1) := by decide +kernel
theorem dX8_isOrder_105 : decode cX8_isOrder 105 = .ok (.goto 4, 3) := by decide +kernel
theorem dX8_isOrder_108 : decode cX8_isOrder 108 = .ok (.iconst 0, 1) := by decide +kernel
theorem dX8_isOrder_109 : decode cX8_isOrder 109 = .ok (.ireturn, 1) := by decide +kernel
theorem dX8_isOrder_110 : decode cX8_isOrder 110 = .ok (.iload_n 2, 1) := by decide +kernel
theorem dX8_isOrder_111 : decode cX8_isOrder 111 = .ok (.i2l, 1) := by decide +kernel
theorem dX8_isOrder_112 : decode cX8_isOrder 112 = .ok (.lconst 0, 1) := by decide +kernel
theorem dX8_isOrder_113 : decode cX8_isOrder 113 = .ok (.aload_n 0, 1) := by decide +kernel
theorem dX8_isOrder_114 : decode cX8_isOrder 114 = .ok (.getfield 254, 3) := by decide +kernel
theorem dX8_isOrder_117 : decode cX8_isOrder 117 = .ok (.iconst 1, 1) := by decide +kernel
theorem dX8_isOrder_118 : decode cX8_isOrder 118 = .ok (.isub, 1) := by decide +kernel
theorem dX8_isOrder_119 : decode cX8_isOrder 119 = .ok (.i2l, 1) := by decide +kernel
theorem dX8_isOrder_120 : decode cX8_isOrder 120 = .ok (.invokestatic 121, 3) := by decide +kernel
theorem dX8_isOrder_123 : decode cX8_isOrder 123 = .ok (.ifCond .eq 19, 3) := by decide +kernel
theorem dX8_isOrder_126 : decode cX8_isOrder 126 = .ok (.iload_n 3, 1) := by decide +kernel
theorem dX8_isOrder_127 : decode cX8_isOrder 127 = .ok (.i2l, 1) := by decide +kernel
theorem dX8_isOrder_128 : decode cX8_isOrder 128 = .ok (.lconst 1, 1) := by decide +kernel
theorem dX8_isOrder_129 : decode cX8_isOrder 129 = .ok (.ldc2_w 239, 3) := by decide +kernel
theorem dX8_isOrder_132 : decode cX8_isOrder 132 = .ok (.invokestatic 121, 3) := by decide +kernel
theorem dX8_isOrder_135 : decode cX8_isOrder 135 = .ok (.ifCond .eq 7, 3) := by decide +kernel
theorem dX8_isOrder_138 : decode cX8_isOrder 138 = .ok (.iconst 1, 1) := by decide +kernel
theorem dX8_isOrder_139 : decode cX8_isOrder 139 = .ok (.goto 4, 3) := by decide +kernel
theorem dX8_isOrder_142 : decode cX8_isOrder 142 = .ok (.iconst 0, 1) := by decide +kernel
theorem dX8_isOrder_143 : decode cX8_isOrder 143 = .ok (.ireturn, 1) := by decide +kernel
theorem dX8_isOrder_144 : decode cX8_isOrder 144 = .ok (.iload_n 2, 1) := by decide +kernel
theorem dX8_isOrder_145 : decode cX8_isOrder 145 = .ok (.i2l, 1) := by decide +kernel
theorem dX8_isOrder_146 : decode cX8_isOrder 146 = .ok (.lconst 1, 1) := by decide +kernel
theorem dX8_isOrder_147 : decode cX8_isOrder 147 = .ok (.ldc2_w 250, 3) := by decide +kernel
theorem dX8_isOrder_150 : decode cX8_isOrder 150 = .ok (.invokestatic 121, 3) := by decide +kernel
theorem dX8_isOrder_153 : decode cX8_isOrder 153 = .ok (.ifCond .eq 11, 3) := by decide +kernel
theorem dX8_isOrder_156 : decode cX8_isOrder 156 = .ok (.iload_n 3, 1) := by decide +kernel
theorem dX8_isOrder_157 : decode cX8_isOrder 157 = .ok (.ifCond .ne 7, 3) := by decide +kernel
theorem dX8_isOrder_160 : decode cX8_isOrder 160 = .ok (.iconst 1, 1) := by decide +kernel
theorem dX8_isOrder_161 : decode cX8_isOrder 161 = .ok (.goto 4, 3) := by decide +kernel
theorem dX8_isOrder_164 : decode cX8_isOrder 164 = .ok (.iconst 0, 1) := by decide +kernel
theorem dX8_isOrder_165 : decode cX8_isOrder 165 = .ok (.ireturn, 1) := by decide +kernel
theorem dX8_isOrder_166 : decode cX8_isOrder 166 = .ok (.iload_n 1, 1) := by decide +kernel
theorem dX8_isOrder_167 : decode cX8_isOrder 167 = .ok (.iconst 5, 1) := by decide +kernel
theorem dX8_isOrder_168 : decode cX8_isOrder 168 = .ok (.if_icmp .ne 15, 3) := by decide +kernel
theorem dX8_isOrder_171 : decode cX8_isOrder 171 = .ok (.iload_n 2, 1) := by decide +kernel
theorem dX8_isOrder_172 : decode cX8_isOrder 172 = .ok (.ifCond .ne 11, 3) := by decide +kernel
theorem dX8_isOrder_175 : decode cX8_isOrder 175 = .ok (.iload_n 3, 1) := by decide +kernel
theorem dX8_isOrder_176 : decode cX8_isOrder 176 = .ok (.ifCond .ne 7, 3) := by decide +kernel
theorem dX8_isOrder_179 : decode cX8_isOrder 179 = .ok (.iconst 1, 1) := by decide +kernel
theorem dX8_isOrder_180 : decode cX8_isOrder 180 = .ok (.goto 4, 3) := by decide +kernel
theorem dX8_isOrder_183 : decode cX8_isOrder 183 = .ok (.iconst 0, 1) := by decide +kernel
theorem dX8_isOrder_184 : decode cX8_isOrder 184 = .ok (.ireturn, 1) := by decide +kernel
theorem dX8_order_0 : decode cX8_order 0 = .ok (.aload_n 0, 1) := by decide +kernel
theorem dX8_order_1 : decode cX8_order 1 = .ok (.iload_n 1, 1) := by decide +kernel
theorem dX8_order_2 : decode cX8_order 2 = .ok (.iload_n 2, 1) := by decide +kernel
theorem dX8_order_3 : decode cX8_order 3 = .ok (.iload_n 3, 1) := by decide +kernel
theorem dX8_order_4 : decode cX8_order 4 = .ok (.invokevirtual 257, 3) := by decide +kernel
theorem dX8_order_7 : decode cX8_order 7 = .ok (.ifCond .ne 6, 3) := by decide +kernel
theorem dX8_order_10 : decode cX8_order 10 = .ok (.bipush (-2), 2) := by decide +kernel
theorem dX8_order_12 : decode cX8_order 12 = .ok (.ireturn, 1) := by decide +kernel
theorem dX8_order_13 : decode cX8_order 13 = .ok (.aload_n 0, 1) := by decide +kernel
theorem dX8_order_14 : decode cX8_order 14 = .ok (.getfield 254, 3) := by decide +kernel
theorem dX8_order_17 : decode cX8_order 17 = .ok (.bipush 60, 2) := by decide +kernel
theorem dX8_order_19 : decode cX8_order 19 = .ok (.if_icmp .ne 6, 3) := by decide +kernel
theorem dX8_order_22 : decode cX8_order 22 = .ok (.bipush (-3), 2) := by decide +kernel
theorem dX8_order_24 : decode cX8_order 24 = .ok (.ireturn, 1) := by decide +kernel
theorem dX8_order_25 : decode cX8_order 25 = .ok (.aload_n 0, 1) := by decide +kernel
theorem dX8_order_26 : decode cX8_order 26 = .ok (.getfield 93, 3) := by decide +kernel
theorem dX8_order_29 : decode cX8_order 29 = .ok (.aload_n 0, 1) := by decide +kernel
theorem dX8_order_30 : decode cX8_order 30 = .ok (.getfield 254, 3) := by decide +kernel
theorem dX8_order_33 : decode cX8_order 33 = .ok (.iload_n 1, 1) := by decide +kernel
theorem dX8_order_34 : decode cX8_order 34 = .ok (.iastore, 1) := by decide +kernel
theorem dX8_order_35 : decode cX8_order 35 = .ok (.aload_n 0, 1) := by decide +kernel
theorem dX8_order_36 : decode cX8_order 36 = .ok (.getfield 96, 3) := by decide +kernel
theorem dX8_order_39 : decode cX8_order 39 = .ok (.aload_n 0, 1) := by decide +kernel
theorem dX8_order_40 : decode cX8_order 40 = .ok (.getfield 254, 3) := by decide +kernel
theorem dX8_order_43 : decode cX8_order 43 = .ok (.iload_n 2, 1) := by decide +kernel
theorem dX8_order_44 : decode cX8_order 44 = .ok (.iastore, 1) := by decide +kernel
theorem dX8_order_45 : decode cX8_order 45 = .ok (.aload_n 0, 1) := by decide +kernel
theorem dX8_order_46 : decode cX8_order 46 = .ok (.getfield 99, 3) := by decide +kernel
theorem dX8_order_49 : decode cX8_order 49 = .ok (.aload_n 0, 1) := by decide +kernel
theorem dX8_order_50 : decode cX8_order 50 = .ok (.getfield 254, 3) := by decide +kernel
theorem dX8_order_53 : decode cX8_order 53 = .ok (.iload_n 3, 1) := by decide +kernel
theorem dX8_order_54 : decode cX8_order 54 = .ok (.iastore, 1) := by decide +kernel
theorem dX8_order_55 : decode cX8_order 55 = .ok (.aload_n 0, 1) := by decide +kernel
theorem dX8_order_56 : decode cX8_order 56 = .ok (.dup, 1) := by decide +kernel
theorem dX8_order_57 : decode cX8_order 57 = .ok (.getfield 254, 3) := by decide +kernel
theorem dX8_order_60 : decode cX8_order 60 = .ok (.iconst 1, 1) := by decide +kernel
theorem dX8_order_61 : decode cX8_order 61 = .ok (.iadd, 1) := by decide +kernel
theorem dX8_order_62 : decode cX8_order 62 = .ok (.putfield 254, 3) := by decide +kernel
theorem dX8_order_65 : decode cX8_order 65 = .ok (.aload_n 0, 1) := by decide +kernel
theorem dX8_order_66 : decode cX8_order 66 = .ok (.getfield 254, 3) := by decide +kernel
theorem dX8_order_69 : decode cX8_order 69 = .ok (.iconst 1, 1) := by decide +kernel
theorem dX8_order_70 : decode cX8_order 70 = .ok (.isub, 1) := by decide +kernel
theorem dX8_order_71 : decode cX8_order 71 = .ok (.ireturn, 1) := by decide +kernel
theorem dX8_wipe_0 : decode cX8_wipe 0 = .ok (.aload_n 0, 1) := by decide +kernel
theorem dX8_wipe_1 : decode cX8_wipe 1 = .ok (.getfield 254, 3) := by decide +kernel
theorem dX8_wipe_4 : decode cX8_wipe 4 = .ok (.istore_n 1, 1) := by decide +kernel
theorem dX8_wipe_5 : decode cX8_wipe 5 = .ok (.aload_n 0, 1) := by decide +kernel
theorem dX8_wipe_6 : decode cX8_wipe 6 = .ok (.iconst 0, 1) := by decide +kernel
theorem dX8_wipe_7 : decode cX8_wipe 7 = .ok (.putfield 254, 3) := by decide +kernel
theorem dX8_wipe_10 : decode cX8_wipe 10 = .ok (.iload_n 1, 1) := by decide +kernel
theorem dX8_wipe_11 : decode cX8_wipe 11 = .ok (.ireturn, 1) := by decide +kernel
theorem dX8_turnOf_0 : decode cX8_turnOf 0 = .ok (.iload_n 1, 1) := by decide +kernel
theorem dX8_turnOf_1 : decode cX8_turnOf 1 = .ok (.aload_n 0, 1) := by decide +kernel
theorem dX8_turnOf_2 : decode cX8_turnOf 2 = .ok (.getfield 261, 3) := by decide +kernel
theorem dX8_turnOf_5 : decode cX8_turnOf 5 = .ok (.isub, 1) := by decide +kernel
theorem dX8_turnOf_6 : decode cX8_turnOf 6 = .ok (.sipush 360, 3) := by decide +kernel
theorem dX8_turnOf_9 : decode cX8_turnOf 9 = .ok (.iadd, 1) := by decide +kernel
theorem dX8_turnOf_10 : decode cX8_turnOf 10 = .ok (.sipush 360, 3) := by decide +kernel
theorem dX8_turnOf_13 : decode cX8_turnOf 13 = .ok (.irem, 1) := by decide +kernel
theorem dX8_turnOf_14 : decode cX8_turnOf 14 = .ok (.istore_n 2, 1) := by decide +kernel
theorem dX8_turnOf_15 : decode cX8_turnOf 15 = .ok (.iload_n 2, 1) := by decide +kernel
theorem dX8_turnOf_16 : decode cX8_turnOf 16 = .ok (.sipush 180, 3) := by decide +kernel
theorem dX8_turnOf_19 : decode cX8_turnOf 19 = .ok (.if_icmp .le 11, 3) := by decide +kernel
theorem dX8_turnOf_22 : decode cX8_turnOf 22 = .ok (.sipush 360, 3) := by decide +kernel
theorem dX8_turnOf_25 : decode cX8_turnOf 25 = .ok (.iload_n 2, 1) := by decide +kernel
theorem dX8_turnOf_26 : decode cX8_turnOf 26 = .ok (.isub, 1) := by decide +kernel
theorem dX8_turnOf_27 : decode cX8_turnOf 27 = .ok (.goto 4, 3) := by decide +kernel
theorem dX8_turnOf_30 : decode cX8_turnOf 30 = .ok (.iload_n 2, 1) := by decide +kernel
theorem dX8_turnOf_31 : decode cX8_turnOf 31 = .ok (.istore_n 3, 1) := by decide +kernel
theorem dX8_turnOf_32 : decode cX8_turnOf 32 = .ok (.iload_n 3, 1) := by decide +kernel
theorem dX8_turnOf_33 : decode cX8_turnOf 33 = .ok (.iconst 5, 1) := by decide +kernel
theorem dX8_turnOf_34 : decode cX8_turnOf 34 = .ok (.iadd, 1) := by decide +kernel
theorem dX8_turnOf_35 : decode cX8_turnOf 35 = .ok (.bipush 6, 2) := by decide +kernel
theorem dX8_turnOf_37 : decode cX8_turnOf 37 = .ok (.idiv, 1) := by decide +kernel
theorem dX8_turnOf_38 : decode cX8_turnOf 38 = .ok (.ireturn, 1) := by decide +kernel
theorem dX8_lengthOf_0 : decode cX8_lengthOf 0 = .ok (.aload_n 0, 1) := by decide +kernel
theorem dX8_lengthOf_1 : decode cX8_lengthOf 1 = .ok (.getfield 93, 3) := by decide +kernel
theorem dX8_lengthOf_4 : decode cX8_lengthOf 4 = .ok (.iload_n 1, 1) := by decide +kernel
theorem dX8_lengthOf_5 : decode cX8_lengthOf 5 = .ok (.iaload, 1) := by decide +kernel
theorem dX8_lengthOf_6 : decode cX8_lengthOf 6 = .ok (.tableswitch 56 0 5 #[38, 45, 38, 56, 56, 45], 38) := by decide +kernel
theorem dX8_lengthOf_44 : decode cX8_lengthOf 44 = .ok (.aload_n 0, 1) := by decide +kernel
theorem dX8_lengthOf_45 : decode cX8_lengthOf 45 = .ok (.getfield 96, 3) := by decide +kernel
theorem dX8_lengthOf_48 : decode cX8_lengthOf 48 = .ok (.iload_n 1, 1) := by decide +kernel
theorem dX8_lengthOf_49 : decode cX8_lengthOf 49 = .ok (.iaload, 1) := by decide +kernel
theorem dX8_lengthOf_50 : decode cX8_lengthOf 50 = .ok (.ireturn, 1) := by decide +kernel
theorem dX8_lengthOf_51 : decode cX8_lengthOf 51 = .ok (.aload_n 0, 1) := by decide +kernel
theorem dX8_lengthOf_52 : decode cX8_lengthOf 52 = .ok (.aload_n 0, 1) := by decide +kernel
theorem dX8_lengthOf_53 : decode cX8_lengthOf 53 = .ok (.getfield 96, 3) := by decide +kernel
theorem dX8_lengthOf_56 : decode cX8_lengthOf 56 = .ok (.iload_n 1, 1) := by decide +kernel
theorem dX8_lengthOf_57 : decode cX8_lengthOf 57 = .ok (.iaload, 1) := by decide +kernel
theorem dX8_lengthOf_58 : decode cX8_lengthOf 58 = .ok (.invokevirtual 264, 3) := by decide +kernel
theorem dX8_lengthOf_61 : decode cX8_lengthOf 61 = .ok (.ireturn, 1) := by decide +kernel
theorem dX8_lengthOf_62 : decode cX8_lengthOf 62 = .ok (.iconst 0, 1) := by decide +kernel
theorem dX8_lengthOf_63 : decode cX8_lengthOf 63 = .ok (.ireturn, 1) := by decide +kernel
theorem dX8_isUp_0 : decode cX8_isUp 0 = .ok (.aload_n 0, 1) := by decide +kernel
theorem dX8_isUp_1 : decode cX8_isUp 1 = .ok (.getfield 84, 3) := by decide +kernel
theorem dX8_isUp_4 : decode cX8_isUp 4 = .ok (.iload_n 1, 1) := by decide +kernel
theorem dX8_isUp_5 : decode cX8_isUp 5 = .ok (.baload, 1) := by decide +kernel
theorem dX8_isUp_6 : decode cX8_isUp 6 = .ok (.ifCond .eq 31, 3) := by decide +kernel
theorem dX8_isUp_9 : decode cX8_isUp 9 = .ok (.iload_n 2, 1) := by decide +kernel
theorem dX8_isUp_10 : decode cX8_isUp 10 = .ok (.sipush 1440, 3) := by decide +kernel
theorem dX8_isUp_13 : decode cX8_isUp 13 = .ok (.irem, 1) := by decide +kernel
theorem dX8_isUp_14 : decode cX8_isUp 14 = .ok (.i2l, 1) := by decide +kernel
theorem dX8_isUp_15 : decode cX8_isUp 15 = .ok (.aload_n 0, 1) := by decide +kernel
theorem dX8_isUp_16 : decode cX8_isUp 16 = .ok (.getfield 87, 3) := by decide +kernel
theorem dX8_isUp_19 : decode cX8_isUp 19 = .ok (.iload_n 1, 1) := by decide +kernel
theorem dX8_isUp_20 : decode cX8_isUp 20 = .ok (.iaload, 1) := by decide +kernel
theorem dX8_isUp_21 : decode cX8_isUp 21 = .ok (.i2l, 1) := by decide +kernel
theorem dX8_isUp_22 : decode cX8_isUp 22 = .ok (.aload_n 0, 1) := by decide +kernel
theorem dX8_isUp_23 : decode cX8_isUp 23 = .ok (.getfield 90, 3) := by decide +kernel
theorem dX8_isUp_26 : decode cX8_isUp 26 = .ok (.iload_n 1, 1) := by decide +kernel
theorem dX8_isUp_27 : decode cX8_isUp 27 = .ok (.iaload, 1) := by decide +kernel
theorem dX8_isUp_28 : decode cX8_isUp 28 = .ok (.iconst 1, 1) := by decide +kernel
theorem dX8_isUp_29 : decode cX8_isUp 29 = .ok (.isub, 1) := by decide +kernel
theorem dX8_isUp_30 : decode cX8_isUp 30 = .ok (.i2l, 1) := by decide +kernel
theorem dX8_isUp_31 : decode cX8_isUp 31 = .ok (.invokestatic 121, 3) := by decide +kernel
theorem dX8_isUp_34 : decode cX8_isUp 34 = .ok (.ifCond .eq 7, 3) := by decide +kernel
theorem dX8_isUp_37 : decode cX8_isUp 37 = .ok (.iconst 1, 1) := by decide +kernel
theorem dX8_isUp_38 : decode cX8_isUp 38 = .ok (.goto 4, 3) := by decide +kernel
theorem dX8_isUp_41 : decode cX8_isUp 41 = .ok (.iconst 0, 1) := by decide +kernel
theorem dX8_isUp_42 : decode cX8_isUp 42 = .ok (.ireturn, 1) := by decide +kernel
theorem dX8_isUpAll_0 : decode cX8_isUpAll 0 = .ok (.iconst 0, 1) := by decide +kernel
theorem dX8_isUpAll_1 : decode cX8_isUpAll 1 = .ok (.istore_n 2, 1) := by decide +kernel
theorem dX8_isUpAll_2 : decode cX8_isUpAll 2 = .ok (.iload_n 2, 1) := by decide +kernel
theorem dX8_isUpAll_3 : decode cX8_isUpAll 3 = .ok (.aload_n 0, 1) := by decide +kernel
theorem dX8_isUpAll_4 : decode cX8_isUpAll 4 = .ok (.getfield 96, 3) := by decide +kernel
theorem dX8_isUpAll_7 : decode cX8_isUpAll 7 = .ok (.iload_n 1, 1) := by decide +kernel
theorem dX8_isUpAll_8 : decode cX8_isUpAll 8 = .ok (.iaload, 1) := by decide +kernel
theorem dX8_isUpAll_9 : decode cX8_isUpAll 9 = .ok (.if_icmp .ge 30, 3) := by decide +kernel
theorem dX8_isUpAll_12 : decode cX8_isUpAll 12 = .ok (.aload_n 0, 1) := by decide +kernel
theorem dX8_isUpAll_13 : decode cX8_isUpAll 13 = .ok (.aload_n 0, 1) := by decide +kernel
theorem dX8_isUpAll_14 : decode cX8_isUpAll 14 = .ok (.getfield 99, 3) := by decide +kernel
theorem dX8_isUpAll_17 : decode cX8_isUpAll 17 = .ok (.iload_n 1, 1) := by decide +kernel
theorem dX8_isUpAll_18 : decode cX8_isUpAll 18 = .ok (.iaload, 1) := by decide +kernel
theorem dX8_isUpAll_19 : decode cX8_isUpAll 19 = .ok (.aload_n 0, 1) := by decide +kernel
theorem dX8_isUpAll_20 : decode cX8_isUpAll 20 = .ok (.getfield 267, 3) := by decide +kernel
theorem dX8_isUpAll_23 : decode cX8_isUpAll 23 = .ok (.iload_n 2, 1) := by decide +kernel
theorem dX8_isUpAll_24 : decode cX8_isUpAll 24 = .ok (.iadd, 1) := by decide +kernel
theorem dX8_isUpAll_25 : decode cX8_isUpAll 25 = .ok (.invokevirtual 270, 3) := by decide +kernel
theorem dX8_isUpAll_28 : decode cX8_isUpAll 28 = .ok (.ifCond .ne 5, 3) := by decide +kernel
theorem dX8_isUpAll_31 : decode cX8_isUpAll 31 = .ok (.iconst 0, 1) := by decide +kernel
theorem dX8_isUpAll_32 : decode cX8_isUpAll 32 = .ok (.ireturn, 1) := by decide +kernel
theorem dX8_isUpAll_33 : decode cX8_isUpAll 33 = .ok (.iinc 2 1, 3) := by decide +kernel
theorem dX8_isUpAll_36 : decode cX8_isUpAll 36 = .ok (.goto (-34), 3) := by decide +kernel
theorem dX8_isUpAll_39 : decode cX8_isUpAll 39 = .ok (.iconst 1, 1) := by decide +kernel
theorem dX8_isUpAll_40 : decode cX8_isUpAll 40 = .ok (.ireturn, 1) := by decide +kernel
theorem dX8_does_0 : decode cX8_does 0 = .ok (.aload_n 0, 1) := by decide +kernel
theorem dX8_does_1 : decode cX8_does 1 = .ok (.iload_n 1, 1) := by decide +kernel
theorem dX8_does_2 : decode cX8_does 2 = .ok (.invokevirtual 273, 3) := by decide +kernel
theorem dX8_does_5 : decode cX8_does 5 = .ok (.istore_n 2, 1) := by decide +kernel
theorem dX8_does_6 : decode cX8_does 6 = .ok (.aload_n 0, 1) := by decide +kernel
theorem dX8_does_7 : decode cX8_does 7 = .ok (.dup, 1) := by decide +kernel
theorem dX8_does_8 : decode cX8_does 8 = .ok (.getfield 276, 3) := by decide +kernel
theorem dX8_does_11 : decode cX8_does 11 = .ok (.iconst 1, 1) := by decide +kernel
theorem dX8_does_12 : decode cX8_does 12 = .ok (.iadd, 1) := by decide +kernel
theorem dX8_does_13 : decode cX8_does 13 = .ok (.putfield 276, 3) := by decide +kernel
theorem dX8_does_16 : decode cX8_does 16 = .ok (.aload_n 0, 1) := by decide +kernel
theorem dX8_does_17 : decode cX8_does 17 = .ok (.getfield 93, 3) := by decide +kernel
theorem dX8_does_20 : decode cX8_does 20 = .ok (.iload_n 1, 1) := by decide +kernel
theorem dX8_does_21 : decode cX8_does 21 = .ok (.iaload, 1) := by decide +kernel
theorem dX8_does_22 : decode cX8_does 22 = .ok (.iconst 3, 1) := by decide +kernel
theorem dX8_does_23 : decode cX8_does 23 = .ok (.if_icmp .ne 45, 3) := by decide +kernel
theorem dX8_does_26 : decode cX8_does 26 = .ok (.aload_n 0, 1) := by decide +kernel
theorem dX8_does_27 : decode cX8_does 27 = .ok (.getfield 102, 3) := by decide +kernel
theorem dX8_does_30 : decode cX8_does 30 = .ok (.iload_n 1, 1) := by decide +kernel
theorem dX8_does_31 : decode cX8_does 31 = .ok (.iaload, 1) := by decide +kernel
theorem dX8_does_32 : decode cX8_does 32 = .ok (.ifCond .le 20, 3) := by decide +kernel
theorem dX8_does_35 : decode cX8_does 35 = .ok (.aload_n 0, 1) := by decide +kernel
theorem dX8_does_36 : decode cX8_does 36 = .ok (.getfield 102, 3) := by decide +kernel
theorem dX8_does_39 : decode cX8_does 39 = .ok (.iload_n 1, 1) := by decide +kernel
theorem dX8_does_40 : decode cX8_does 40 = .ok (.dup2, 1) := by decide +kernel
theorem dX8_does_41 : decode cX8_does 41 = .ok (.iaload, 1) := by decide +kernel
theorem dX8_does_42 : decode cX8_does 42 = .ok (.iconst 1, 1) := by decide +kernel
theorem dX8_does_43 : decode cX8_does 43 = .ok (.isub, 1) := by decide +kernel
theorem dX8_does_44 : decode cX8_does 44 = .ok (.iastore, 1) := by decide +kernel
theorem dX8_does_45 : decode cX8_does 45 = .ok (.aload_n 0, 1) := by decide +kernel
theorem dX8_does_46 : decode cX8_does 46 = .ok (.getfield 96, 3) := by decide +kernel
theorem dX8_does_49 : decode cX8_does 49 = .ok (.iload_n 1, 1) := by decide +kernel
theorem dX8_does_50 : decode cX8_does 50 = .ok (.iaload, 1) := by decide +kernel
theorem dX8_does_51 : decode cX8_does 51 = .ok (.ireturn, 1) := by decide +kernel
theorem dX8_does_52 : decode cX8_does 52 = .ok (.aload_n 0, 1) := by decide +kernel
theorem dX8_does_53 : decode cX8_does 53 = .ok (.getfield 102, 3) := by decide +kernel
theorem dX8_does_56 : decode cX8_does 56 = .ok (.iload_n 1, 1) := by decide +kernel
theorem dX8_does_57 : decode cX8_does 57 = .ok (.aload_n 0, 1) := by decide +kernel
theorem dX8_does_58 : decode cX8_does 58 = .ok (.getfield 99, 3) := by decide +kernel
theorem dX8_does_61 : decode cX8_does 61 = .ok (.iload_n 1, 1) := by decide +kernel
theorem dX8_does_62 : decode cX8_does 62 = .ok (.iaload, 1) := by decide +kernel
theorem dX8_does_63 : decode cX8_does 63 = .ok (.iastore, 1) := by decide +kernel
theorem dX8_does_64 : decode cX8_does 64 = .ok (.iload_n 1, 1) := by decide +kernel
theorem dX8_does_65 : decode cX8_does 65 = .ok (.iconst 1, 1) := by decide +kernel
theorem dX8_does_66 : decode cX8_does 66 = .ok (.iadd, 1) := by decide +kernel
theorem dX8_does_67 : decode cX8_does 67 = .ok (.ireturn, 1) := by decide +kernel
theorem dX8_does_68 : decode cX8_does 68 = .ok (.aload_n 0, 1) := by decide +kernel
theorem dX8_does_69 : decode cX8_does 69 = .ok (.getfield 93, 3) := by decide +kernel
theorem dX8_does_72 : decode cX8_does 72 = .ok (.iload_n 1, 1) := by decide +kernel
theorem dX8_does_73 : decode cX8_does 73 = .ok (.iaload, 1) := by decide +kernel
theorem dX8_does_74 : decode cX8_does 74 = .ok (.iconst 4, 1) := by decide +kernel
theorem dX8_does_75 : decode cX8_does 75 = .ok (.if_icmp .ne 43, 3) := by decide +kernel
theorem dX8_does_78 : decode cX8_does 78 = .ok (.aload_n 0, 1) := by decide +kernel
theorem dX8_does_79 : decode cX8_does 79 = .ok (.aload_n 0, 1) := by decide +kernel
theorem dX8_does_80 : decode cX8_does 80 = .ok (.getfield 267, 3) := by decide +kernel
theorem dX8_does_83 : decode cX8_does 83 = .ok (.aload_n 0, 1) := by decide +kernel
theorem dX8_does_84 : decode cX8_does 84 = .ok (.getfield 96, 3) := by decide +kernel
theorem dX8_does_87 : decode cX8_does 87 = .ok (.iload_n 1, 1) := by decide +kernel
theorem dX8_does_88 : decode cX8_does 88 = .ok (.iaload, 1) := by decide +kernel
theorem dX8_does_89 : decode cX8_does 89 = .ok (.iadd, 1) := by decide +kernel
theorem dX8_does_90 : decode cX8_does 90 = .ok (.aload_n 0, 1) := by decide +kernel
theorem dX8_does_91 : decode cX8_does 91 = .ok (.getfield 279, 3) := by decide +kernel
theorem dX8_does_94 : decode cX8_does 94 = .ok (.if_icmp .le 17, 3) := by decide +kernel
theorem dX8_does_97 : decode cX8_does 97 = .ok (.aload_n 0, 1) := by decide +kernel
theorem dX8_does_98 : decode cX8_does 98 = .ok (.getfield 267, 3) := by decide +kernel
theorem dX8_does_101 : decode cX8_does 101 = .ok (.aload_n 0, 1) := by decide +kernel
theorem dX8_does_102 : decode cX8_does 102 = .ok (.getfield 96, 3) := by decide +kernel
theorem dX8_does_105 : decode cX8_does 105 = .ok (.iload_n 1, 1) := by decide +kernel
theorem dX8_does_106 : decode cX8_does 106 = .ok (.iaload, 1) := by decide +kernel
theorem dX8_does_107 : decode cX8_does 107 = .ok (.iadd, 1) := by decide +kernel
theorem dX8_does_108 : decode cX8_does 108 = .ok (.goto 7, 3) := by decide +kernel
theorem dX8_does_111 : decode cX8_does 111 = .ok (.aload_n 0, 1) := by decide +kernel
theorem dX8_does_112 : decode cX8_does 112 = .ok (.getfield 279, 3) := by decide +kernel
theorem dX8_does_115 : decode cX8_does 115 = .ok (.putfield 279, 3) := by decide +kernel
theorem dX8_does_118 : decode cX8_does 118 = .ok (.aload_n 0, 1) := by decide +kernel
theorem dX8_does_119 : decode cX8_does 119 = .ok (.getfield 93, 3) := by decide +kernel
theorem dX8_does_122 : decode cX8_does 122 = .ok (.iload_n 1, 1) := by decide +kernel
theorem dX8_does_123 : decode cX8_does 123 = .ok (.iaload, 1) := by decide +kernel
theorem dX8_does_124 : decode cX8_does 124 = .ok (.iconst 1, 1) := by decide +kernel
theorem dX8_does_125 : decode cX8_does 125 = .ok (.if_icmp .eq 13, 3) := by decide +kernel
theorem dX8_does_128 : decode cX8_does 128 = .ok (.aload_n 0, 1) := by decide +kernel
theorem dX8_does_129 : decode cX8_does 129 = .ok (.getfield 93, 3) := by decide +kernel
theorem dX8_does_132 : decode cX8_does 132 = .ok (.iload_n 1, 1) := by decide +kernel
theorem dX8_does_133 : decode cX8_does 133 = .ok (.iaload, 1) := by decide +kernel
theorem dX8_does_134 : decode cX8_does 134 = .ok (.iconst 5, 1) := by decide +kernel
theorem dX8_does_135 : decode cX8_does 135 = .ok (.if_icmp .ne 23, 3) := by decide +kernel
theorem dX8_does_138 : decode cX8_does 138 = .ok (.aload_n 0, 1) := by decide +kernel
theorem dX8_does_139 : decode cX8_does 139 = .ok (.dup, 1) := by decide +kernel
theorem dX8_does_140 : decode cX8_does 140 = .ok (.getfield 282, 3) := by decide +kernel
theorem dX8_does_143 : decode cX8_does 143 = .ok (.iload_n 2, 1) := by decide +kernel
theorem dX8_does_144 : decode cX8_does 144 = .ok (.iadd, 1) := by decide +kernel
theorem dX8_does_145 : decode cX8_does 145 = .ok (.putfield 282, 3) := by decide +kernel
theorem dX8_does_148 : decode cX8_does 148 = .ok (.aload_n 0, 1) := by decide +kernel
theorem dX8_does_149 : decode cX8_does 149 = .ok (.aload_n 0, 1) := by decide +kernel
theorem dX8_does_150 : decode cX8_does 150 = .ok (.getfield 96, 3) := by decide +kernel
theorem dX8_does_153 : decode cX8_does 153 = .ok (.iload_n 1, 1) := by decide +kernel
theorem dX8_does_154 : decode cX8_does 154 = .ok (.iaload, 1) := by decide +kernel
theorem dX8_does_155 : decode cX8_does 155 = .ok (.putfield 261, 3) := by decide +kernel
theorem dX8_does_158 : decode cX8_does 158 = .ok (.aload_n 0, 1) := by decide +kernel
theorem dX8_does_159 : decode cX8_does 159 = .ok (.getfield 93, 3) := by decide +kernel
theorem dX8_does_162 : decode cX8_does 162 = .ok (.iload_n 1, 1) := by decide +kernel
theorem dX8_does_163 : decode cX8_does 163 = .ok (.iaload, 1) := by decide +kernel
theorem dX8_does_164 : decode cX8_does 164 = .ok (.iconst 2, 1) := by decide +kernel
theorem dX8_does_165 : decode cX8_does 165 = .ok (.if_icmp .ne 73, 3) := by decide +kernel
theorem dX8_does_168 : decode cX8_does 168 = .ok (.aload_n 0, 1) := by decide +kernel
theorem dX8_does_169 : decode cX8_does 169 = .ok (.getfield 267, 3) := by decide +kernel
theorem dX8_does_172 : decode cX8_does 172 = .ok (.aload_n 0, 1) := by decide +kernel
theorem dX8_does_173 : decode cX8_does 173 = .ok (.getfield 96, 3) := by decide +kernel
theorem dX8_does_176 : decode cX8_does 176 = .ok (.iload_n 1, 1) := by decide +kernel
theorem dX8_does_177 : decode cX8_does 177 = .ok (.iaload, 1) := by decide +kernel
theorem dX8_does_178 : decode cX8_does 178 = .ok (.iadd, 1) := by decide +kernel
theorem dX8_does_179 : decode cX8_does 179 = .ok (.aload_n 0, 1) := by decide +kernel
theorem dX8_does_180 : decode cX8_does 180 = .ok (.getfield 279, 3) := by decide +kernel
theorem dX8_does_183 : decode cX8_does 183 = .ok (.aload_n 0, 1) := by decide +kernel
theorem dX8_does_184 : decode cX8_does 184 = .ok (.getfield 267, 3) := by decide +kernel
theorem dX8_does_187 : decode cX8_does 187 = .ok (.if_icmp .le 10, 3) := by decide +kernel
theorem dX8_does_190 : decode cX8_does 190 = .ok (.aload_n 0, 1) := by decide +kernel
theorem dX8_does_191 : decode cX8_does 191 = .ok (.getfield 279, 3) := by decide +kernel
theorem dX8_does_194 : decode cX8_does 194 = .ok (.goto 7, 3) := by decide +kernel
theorem dX8_does_197 : decode cX8_does 197 = .ok (.aload_n 0, 1) := by decide +kernel
theorem dX8_does_198 : decode cX8_does 198 = .ok (.getfield 267, 3) := by decide +kernel
theorem dX8_does_201 : decode cX8_does 201 = .ok (.isub, 1) := by decide +kernel
theorem dX8_does_202 : decode cX8_does 202 = .ok (.istore_n 3, 1) := by decide +kernel
theorem dX8_does_203 : decode cX8_does 203 = .ok (.iload_n 3, 1) := by decide +kernel
theorem dX8_does_204 : decode cX8_does 204 = .ok (.ifCond .ge 7, 3) := by decide +kernel
theorem dX8_does_207 : decode cX8_does 207 = .ok (.iconst 0, 1) := by decide +kernel
theorem dX8_does_208 : decode cX8_does 208 = .ok (.goto 4, 3) := by decide +kernel
theorem dX8_does_211 : decode cX8_does 211 = .ok (.iload_n 3, 1) := by decide +kernel
theorem dX8_does_212 : decode cX8_does 212 = .ok (.istore_n 3, 1) := by decide +kernel
theorem dX8_does_213 : decode cX8_does 213 = .ok (.aload_n 0, 1) := by decide +kernel
theorem dX8_does_214 : decode cX8_does 214 = .ok (.dup, 1) := by decide +kernel
theorem dX8_does_215 : decode cX8_does 215 = .ok (.getfield 285, 3) := by decide +kernel
theorem dX8_does_218 : decode cX8_does 218 = .ok (.iload_n 3, 1) := by decide +kernel
theorem dX8_does_219 : decode cX8_does 219 = .ok (.iadd, 1) := by decide +kernel
theorem dX8_does_220 : decode cX8_does 220 = .ok (.putfield 285, 3) := by decide +kernel
theorem dX8_does_223 : decode cX8_does 223 = .ok (.aload_n 0, 1) := by decide +kernel
theorem dX8_does_224 : decode cX8_does 224 = .ok (.getfield 109, 3) := by decide +kernel
theorem dX8_does_227 : decode cX8_does 227 = .ok (.aload_n 0, 1) := by decide +kernel
theorem dX8_does_228 : decode cX8_does 228 = .ok (.getfield 99, 3) := by decide +kernel
theorem dX8_does_231 : decode cX8_does 231 = .ok (.iload_n 1, 1) := by decide +kernel
theorem dX8_does_232 : decode cX8_does 232 = .ok (.iaload, 1) := by decide +kernel
theorem dX8_does_233 : decode cX8_does 233 = .ok (.dup2, 1) := by decide +kernel
theorem dX8_does_234 : decode cX8_does 234 = .ok (.iaload, 1) := by decide +kernel
theorem dX8_does_235 : decode cX8_does 235 = .ok (.iload_n 3, 1) := by decide +kernel
theorem dX8_does_236 : decode cX8_does 236 = .ok (.iadd, 1) := by decide +kernel
theorem dX8_does_237 : decode cX8_does 237 = .ok (.iastore, 1) := by decide +kernel
theorem dX8_does_238 : decode cX8_does 238 = .ok (.aload_n 0, 1) := by decide +kernel
theorem dX8_does_239 : decode cX8_does 239 = .ok (.dup, 1) := by decide +kernel
theorem dX8_does_240 : decode cX8_does 240 = .ok (.getfield 267, 3) := by decide +kernel
theorem dX8_does_243 : decode cX8_does 243 = .ok (.iload_n 2, 1) := by decide +kernel
theorem dX8_does_244 : decode cX8_does 244 = .ok (.iadd, 1) := by decide +kernel
theorem dX8_does_245 : decode cX8_does 245 = .ok (.putfield 267, 3) := by decide +kernel
theorem dX8_does_248 : decode cX8_does 248 = .ok (.iload_n 1, 1) := by decide +kernel
theorem dX8_does_249 : decode cX8_does 249 = .ok (.iconst 1, 1) := by decide +kernel
theorem dX8_does_250 : decode cX8_does 250 = .ok (.iadd, 1) := by decide +kernel
theorem dX8_does_251 : decode cX8_does 251 = .ok (.ireturn, 1) := by decide +kernel
theorem dX8_night_0 : decode cX8_night 0 = .ok (.iload_n 1, 1) := by decide +kernel
theorem dX8_night_1 : decode cX8_night 1 = .ok (.i2l, 1) := by decide +kernel
theorem dX8_night_2 : decode cX8_night 2 = .ok (.lconst 0, 1) := by decide +kernel
theorem dX8_night_3 : decode cX8_night 3 = .ok (.ldc2_w 288, 3) := by decide +kernel
theorem dX8_night_6 : decode cX8_night 6 = .ok (.invokestatic 121, 3) := by decide +kernel
theorem dX8_night_9 : decode cX8_night 9 = .ok (.ifCond .ne 6, 3) := by decide +kernel
theorem dX8_night_12 : decode cX8_night 12 = .ok (.bipush (-2), 2) := by decide +kernel
theorem dX8_night_14 : decode cX8_night 14 = .ok (.ireturn, 1) := by decide +kernel
theorem dX8_night_15 : decode cX8_night 15 = .ok (.aload_n 0, 1) := by decide +kernel
theorem dX8_night_16 : decode cX8_night 16 = .ok (.iconst 0, 1) := by decide +kernel
theorem dX8_night_17 : decode cX8_night 17 = .ok (.putfield 267, 3) := by decide +kernel
theorem dX8_night_20 : decode cX8_night 20 = .ok (.aload_n 0, 1) := by decide +kernel
theorem dX8_night_21 : decode cX8_night 21 = .ok (.iconst 0, 1) := by decide +kernel
theorem dX8_night_22 : decode cX8_night 22 = .ok (.putfield 261, 3) := by decide +kernel
theorem dX8_night_25 : decode cX8_night 25 = .ok (.aload_n 0, 1) := by decide +kernel
theorem dX8_night_26 : decode cX8_night 26 = .ok (.iconst 0, 1) := by decide +kernel
theorem dX8_night_27 : decode cX8_night 27 = .ok (.putfield 285, 3) := by decide +kernel
theorem dX8_night_30 : decode cX8_night 30 = .ok (.aload_n 0, 1) := by decide +kernel
theorem dX8_night_31 : decode cX8_night 31 = .ok (.iconst 0, 1) := by decide +kernel
theorem dX8_night_32 : decode cX8_night 32 = .ok (.putfield 276, 3) := by decide +kernel
theorem dX8_night_35 : decode cX8_night 35 = .ok (.aload_n 0, 1) := by decide +kernel
theorem dX8_night_36 : decode cX8_night 36 = .ok (.iconst (-1), 1) := by decide +kernel
theorem dX8_night_37 : decode cX8_night 37 = .ok (.putfield 105, 3) := by decide +kernel
theorem dX8_night_40 : decode cX8_night 40 = .ok (.aload_n 0, 1) := by decide +kernel
theorem dX8_night_41 : decode cX8_night 41 = .ok (.iconst 0, 1) := by decide +kernel
theorem dX8_night_42 : decode cX8_night 42 = .ok (.putfield 282, 3) := by decide +kernel
theorem dX8_night_45 : decode cX8_night 45 = .ok (.aload_n 0, 1) := by decide +kernel
theorem dX8_night_46 : decode cX8_night 46 = .ok (.iconst 0, 1) := by decide +kernel
theorem dX8_night_47 : decode cX8_night 47 = .ok (.putfield 279, 3) := by decide +kernel
theorem dX8_night_50 : decode cX8_night 50 = .ok (.iconst 0, 1) := by decide +kernel
theorem dX8_night_51 : decode cX8_night 51 = .ok (.istore_n 2, 1) := by decide +kernel
theorem dX8_night_52 : decode cX8_night 52 = .ok (.iload_n 2, 1) := by decide +kernel
theorem dX8_night_53 : decode cX8_night 53 = .ok (.bipush 8, 2) := by decide +kernel
theorem dX8_night_55 : decode cX8_night 55 = .ok (.if_icmp .ge 16, 3) := by decide +kernel
theorem dX8_night_58 : decode cX8_night 58 = .ok (.aload_n 0, 1) := by decide +kernel
theorem dX8_night_59 : decode cX8_night 59 = .ok (.getfield 109, 3) := by decide +kernel
theorem dX8_night_62 : decode cX8_night 62 = .ok (.iload_n 2, 1) := by decide +kernel
theorem dX8_night_63 : decode cX8_night 63 = .ok (.iconst 0, 1) := by decide +kernel
theorem dX8_night_64 : decode cX8_night 64 = .ok (.iastore, 1) := by decide +kernel
theorem dX8_night_65 : decode cX8_night 65 = .ok (.iinc 2 1, 3) := by decide +kernel
theorem dX8_night_68 : decode cX8_night 68 = .ok (.goto (-16), 3) := by decide +kernel
theorem dX8_night_71 : decode cX8_night 71 = .ok (.iconst 0, 1) := by decide +kernel
theorem dX8_night_72 : decode cX8_night 72 = .ok (.istore_n 2, 1) := by decide +kernel
theorem dX8_night_73 : decode cX8_night 73 = .ok (.iload_n 2, 1) := by decide +kernel
theorem dX8_night_74 : decode cX8_night 74 = .ok (.aload_n 0, 1) := by decide +kernel
theorem dX8_night_75 : decode cX8_night 75 = .ok (.getfield 254, 3) := by decide +kernel
theorem dX8_night_78 : decode cX8_night 78 = .ok (.if_icmp .ge 21, 3) := by decide +kernel
theorem dX8_night_81 : decode cX8_night 81 = .ok (.aload_n 0, 1) := by decide +kernel
theorem dX8_night_82 : decode cX8_night 82 = .ok (.getfield 102, 3) := by decide +kernel
theorem dX8_night_85 : decode cX8_night 85 = .ok (.iload_n 2, 1) := by decide +kernel
theorem dX8_night_86 : decode cX8_night 86 = .ok (.aload_n 0, 1) := by decide +kernel
theorem dX8_night_87 : decode cX8_night 87 = .ok (.getfield 99, 3) := by decide +kernel
theorem dX8_night_90 : decode cX8_night 90 = .ok (.iload_n 2, 1) := by decide +kernel
theorem dX8_night_91 : decode cX8_night 91 = .ok (.iaload, 1) := by decide +kernel
theorem dX8_night_92 : decode cX8_night 92 = .ok (.iastore, 1) := by decide +kernel
theorem dX8_night_93 : decode cX8_night 93 = .ok (.iinc 2 1, 3) := by decide +kernel
theorem dX8_night_96 : decode cX8_night 96 = .ok (.goto (-23), 3) := by decide +kernel
theorem dX8_night_99 : decode cX8_night 99 = .ok (.iconst 0, 1) := by decide +kernel
theorem dX8_night_100 : decode cX8_night 100 = .ok (.istore_n 2, 1) := by decide +kernel
theorem dX8_night_101 : decode cX8_night 101 = .ok (.iload_n 2, 1) := by decide +kernel
theorem dX8_night_102 : decode cX8_night 102 = .ok (.aload_n 0, 1) := by decide +kernel
theorem dX8_night_103 : decode cX8_night 103 = .ok (.getfield 254, 3) := by decide +kernel
theorem dX8_night_106 : decode cX8_night 106 = .ok (.if_icmp .ge 65, 3) := by decide +kernel
theorem dX8_night_109 : decode cX8_night 109 = .ok (.aload_n 0, 1) := by decide +kernel
theorem dX8_night_110 : decode cX8_night 110 = .ok (.iload_n 2, 1) := by decide +kernel
theorem dX8_night_111 : decode cX8_night 111 = .ok (.putfield 105, 3) := by decide +kernel
theorem dX8_night_114 : decode cX8_night 114 = .ok (.aload_n 0, 1) := by decide +kernel
theorem dX8_night_115 : decode cX8_night 115 = .ok (.getfield 276, 3) := by decide +kernel
theorem dX8_night_118 : decode cX8_night 118 = .ok (.sipush 2000, 3) := by decide +kernel
theorem dX8_night_121 : decode cX8_night 121 = .ok (.if_icmp .ne 5, 3) := by decide +kernel
theorem dX8_night_124 : decode cX8_night 124 = .ok (.iconst 3, 1) := by decide +kernel
theorem dX8_night_125 : decode cX8_night 125 = .ok (.ireturn, 1) := by decide +kernel
theorem dX8_night_126 : decode cX8_night 126 = .ok (.aload_n 0, 1) := by decide +kernel
theorem dX8_night_127 : decode cX8_night 127 = .ok (.getfield 267, 3) := by decide +kernel
theorem dX8_night_130 : decode cX8_night 130 = .ok (.aload_n 0, 1) := by decide +kernel
theorem dX8_night_131 : decode cX8_night 131 = .ok (.iload_n 2, 1) := by decide +kernel
theorem dX8_night_132 : decode cX8_night 132 = .ok (.invokevirtual 273, 3) := by decide +kernel
theorem dX8_night_135 : decode cX8_night 135 = .ok (.iadd, 1) := by decide +kernel
theorem dX8_night_136 : decode cX8_night 136 = .ok (.iload_n 1, 1) := by decide +kernel
theorem dX8_night_137 : decode cX8_night 137 = .ok (.if_icmp .le 5, 3) := by decide +kernel
theorem dX8_night_140 : decode cX8_night 140 = .ok (.iconst 2, 1) := by decide +kernel
theorem dX8_night_141 : decode cX8_night 141 = .ok (.ireturn, 1) := by decide +kernel
theorem dX8_night_142 : decode cX8_night 142 = .ok (.aload_n 0, 1) := by decide +kernel
theorem dX8_night_143 : decode cX8_night 143 = .ok (.getfield 93, 3) := by decide +kernel
theorem dX8_night_146 : decode cX8_night 146 = .ok (.iload_n 2, 1) := by decide +kernel
theorem dX8_night_147 : decode cX8_night 147 = .ok (.iaload, 1) := by decide +kernel
theorem dX8_night_148 : decode cX8_night 148 = .ok (.iconst 2, 1) := by decide +kernel
theorem dX8_night_149 : decode cX8_night 149 = .ok (.if_icmp .ne 13, 3) := by decide +kernel
theorem dX8_night_152 : decode cX8_night 152 = .ok (.aload_n 0, 1) := by decide +kernel
theorem dX8_night_153 : decode cX8_night 153 = .ok (.iload_n 2, 1) := by decide +kernel
theorem dX8_night_154 : decode cX8_night 154 = .ok (.invokevirtual 290, 3) := by decide +kernel
theorem dX8_night_157 : decode cX8_night 157 = .ok (.ifCond .ne 5, 3) := by decide +kernel
theorem dX8_night_160 : decode cX8_night 160 = .ok (.iconst 1, 1) := by decide +kernel
theorem dX8_night_161 : decode cX8_night 161 = .ok (.ireturn, 1) := by decide +kernel
theorem dX8_night_162 : decode cX8_night 162 = .ok (.aload_n 0, 1) := by decide +kernel
theorem dX8_night_163 : decode cX8_night 163 = .ok (.iload_n 2, 1) := by decide +kernel
theorem dX8_night_164 : decode cX8_night 164 = .ok (.invokevirtual 293, 3) := by decide +kernel
theorem dX8_night_167 : decode cX8_night 167 = .ok (.istore_n 2, 1) := by decide +kernel
theorem dX8_night_168 : decode cX8_night 168 = .ok (.goto (-67), 3) := by decide +kernel
theorem dX8_night_171 : decode cX8_night 171 = .ok (.aload_n 0, 1) := by decide +kernel
theorem dX8_night_172 : decode cX8_night 172 = .ok (.iconst (-1), 1) := by decide +kernel
theorem dX8_night_173 : decode cX8_night 173 = .ok (.putfield 105, 3) := by decide +kernel
theorem dX8_night_176 : decode cX8_night 176 = .ok (.iconst 0, 1) := by decide +kernel
theorem dX8_night_177 : decode cX8_night 177 = .ok (.ireturn, 1) := by decide +kernel
theorem dX8_told_0 : decode cX8_told 0 = .ok (.iload_n 1, 1) := by decide +kernel
theorem dX8_told_1 : decode cX8_told 1 = .ok (.i2l, 1) := by decide +kernel
theorem dX8_told_2 : decode cX8_told 2 = .ok (.ldc2_w 296, 3) := by decide +kernel
theorem dX8_told_5 : decode cX8_told 5 = .ok (.ldc2_w 298, 3) := by decide +kernel
theorem dX8_told_8 : decode cX8_told 8 = .ok (.invokestatic 121, 3) := by decide +kernel
theorem dX8_told_11 : decode cX8_told 11 = .ok (.ifCond .eq 13, 3) := by decide +kernel
theorem dX8_told_14 : decode cX8_told 14 = .ok (.aload_n 0, 1) := by decide +kernel
theorem dX8_told_15 : decode cX8_told 15 = .ok (.getfield 109, 3) := by decide +kernel
theorem dX8_told_18 : decode cX8_told 18 = .ok (.iload_n 1, 1) := by decide +kernel
theorem dX8_told_19 : decode cX8_told 19 = .ok (.bipush 10, 2) := by decide +kernel
theorem dX8_told_21 : decode cX8_told 21 = .ok (.isub, 1) := by decide +kernel
theorem dX8_told_22 : decode cX8_told 22 = .ok (.iaload, 1) := by decide +kernel
theorem dX8_told_23 : decode cX8_told 23 = .ok (.ireturn, 1) := by decide +kernel
theorem dX8_told_24 : decode cX8_told 24 = .ok (.iload_n 1, 1) := by decide +kernel
theorem dX8_told_25 : decode cX8_told 25 = .ok (.tableswitch 69 0 5 #[39, 44, 49, 54, 59, 64], 39) := by decide +kernel
theorem dX8_told_64 : decode cX8_told 64 = .ok (.aload_n 0, 1) := by decide +kernel
theorem dX8_told_65 : decode cX8_told 65 = .ok (.getfield 267, 3) := by decide +kernel
theorem dX8_told_68 : decode cX8_told 68 = .ok (.ireturn, 1) := by decide +kernel
theorem dX8_told_69 : decode cX8_told 69 = .ok (.aload_n 0, 1) := by decide +kernel
theorem dX8_told_70 : decode cX8_told 70 = .ok (.getfield 261, 3) := by decide +kernel
theorem dX8_told_73 : decode cX8_told 73 = .ok (.ireturn, 1) := by decide +kernel
theorem dX8_told_74 : decode cX8_told 74 = .ok (.aload_n 0, 1) := by decide +kernel
theorem dX8_told_75 : decode cX8_told 75 = .ok (.getfield 285, 3) := by decide +kernel
theorem dX8_told_78 : decode cX8_told 78 = .ok (.ireturn, 1) := by decide +kernel
theorem dX8_told_79 : decode cX8_told 79 = .ok (.aload_n 0, 1) := by decide +kernel
theorem dX8_told_80 : decode cX8_told 80 = .ok (.getfield 276, 3) := by decide +kernel
theorem dX8_told_83 : decode cX8_told 83 = .ok (.ireturn, 1) := by decide +kernel
theorem dX8_told_84 : decode cX8_told 84 = .ok (.aload_n 0, 1) := by decide +kernel
theorem dX8_told_85 : decode cX8_told 85 = .ok (.getfield 105, 3) := by decide +kernel
theorem dX8_told_88 : decode cX8_told 88 = .ok (.ireturn, 1) := by decide +kernel
theorem dX8_told_89 : decode cX8_told 89 = .ok (.aload_n 0, 1) := by decide +kernel
theorem dX8_told_90 : decode cX8_told 90 = .ok (.getfield 282, 3) := by decide +kernel
theorem dX8_told_93 : decode cX8_told 93 = .ok (.ireturn, 1) := by decide +kernel
theorem dX8_told_94 : decode cX8_told 94 = .ok (.bipush (-2), 2) := by decide +kernel
theorem dX8_told_96 : decode cX8_told 96 = .ok (.ireturn, 1) := by decide +kernel
theorem dX8_count_0 : decode cX8_count 0 = .ok (.iload_n 1, 1) := by decide +kernel
theorem dX8_count_1 : decode cX8_count 1 = .ok (.tableswitch 78 0 6 #[43, 48, 53, 58, 63, 68, 73], 43) := by decide +kernel
theorem dX8_count_44 : decode cX8_count 44 = .ok (.aload_n 0, 1) := by decide +kernel
theorem dX8_count_45 : decode cX8_count 45 = .ok (.getfield 118, 3) := by decide +kernel
theorem dX8_count_48 : decode cX8_count 48 = .ok (.ireturn, 1) := by decide +kernel
theorem dX8_count_49 : decode cX8_count 49 = .ok (.aload_n 0, 1) := by decide +kernel
theorem dX8_count_50 : decode cX8_count 50 = .ok (.getfield 150, 3) := by decide +kernel
theorem dX8_count_53 : decode cX8_count 53 = .ok (.ireturn, 1) := by decide +kernel
theorem dX8_count_54 : decode cX8_count 54 = .ok (.aload_n 0, 1) := by decide +kernel
theorem dX8_count_55 : decode cX8_count 55 = .ok (.getfield 218, 3) := by decide +kernel
theorem dX8_count_58 : decode cX8_count 58 = .ok (.ireturn, 1) := by decide +kernel
theorem dX8_count_59 : decode cX8_count 59 = .ok (.aload_n 0, 1) := by decide +kernel
theorem dX8_count_60 : decode cX8_count 60 = .ok (.getfield 225, 3) := by decide +kernel
theorem dX8_count_63 : decode cX8_count 63 = .ok (.ireturn, 1) := by decide +kernel
theorem dX8_count_64 : decode cX8_count 64 = .ok (.aload_n 0, 1) := by decide +kernel
theorem dX8_count_65 : decode cX8_count 65 = .ok (.getfield 254, 3) := by decide +kernel
theorem dX8_count_68 : decode cX8_count 68 = .ok (.ireturn, 1) := by decide +kernel
theorem dX8_count_69 : decode cX8_count 69 = .ok (.aload_n 0, 1) := by decide +kernel
theorem dX8_count_70 : decode cX8_count 70 = .ok (.invokevirtual 228, 3) := by decide +kernel
theorem dX8_count_73 : decode cX8_count 73 = .ok (.ireturn, 1) := by decide +kernel
theorem dX8_count_74 : decode cX8_count 74 = .ok (.aload_n 0, 1) := by decide +kernel
theorem dX8_count_75 : decode cX8_count 75 = .ok (.getfield 115, 3) := by decide +kernel
theorem dX8_count_78 : decode cX8_count 78 = .ok (.ireturn, 1) := by decide +kernel
theorem dX8_count_79 : decode cX8_count 79 = .ok (.bipush (-2), 2) := by decide +kernel
theorem dX8_count_81 : decode cX8_count 81 = .ok (.ireturn, 1) := by decide +kernel
theorem dX8_digest_0 : decode cX8_digest 0 = .ok (.ldc2_w 298, 3) := by decide +kernel
theorem dX8_digest_3 : decode cX8_digest 3 = .ok (.lstore_n 1, 1) := by decide +kernel
theorem dX8_digest_4 : decode cX8_digest 4 = .ok (.iconst 0, 1) := by decide +kernel
theorem dX8_digest_5 : decode cX8_digest 5 = .ok (.istore_n 3, 1) := by decide +kernel
theorem dX8_digest_6 : decode cX8_digest 6 = .ok (.iload_n 3, 1) := by decide +kernel
theorem dX8_digest_7 : decode cX8_digest 7 = .ok (.bipush 6, 2) := by decide +kernel
theorem dX8_digest_9 : decode cX8_digest 9 = .ok (.if_icmp .ge 22, 3) := by decide +kernel
theorem dX8_digest_12 : decode cX8_digest 12 = .ok (.ldc2_w 300, 3) := by decide +kernel
theorem dX8_digest_15 : decode cX8_digest 15 = .ok (.lload_n 1, 1) := by decide +kernel
theorem dX8_digest_16 : decode cX8_digest 16 = .ok (.lmul, 1) := by decide +kernel
theorem dX8_digest_17 : decode cX8_digest 17 = .ok (.aload_n 0, 1) := by decide +kernel
theorem dX8_digest_18 : decode cX8_digest 18 = .ok (.iload_n 3, 1) := by decide +kernel
theorem dX8_digest_19 : decode cX8_digest 19 = .ok (.invokevirtual 302, 3) := by decide +kernel
theorem dX8_digest_22 : decode cX8_digest 22 = .ok (.i2l, 1) := by decide +kernel
theorem dX8_digest_23 : decode cX8_digest 23 = .ok (.ladd, 1) := by decide +kernel
theorem dX8_digest_24 : decode cX8_digest 24 = .ok (.lstore_n 1, 1) := by decide +kernel
theorem dX8_digest_25 : decode cX8_digest 25 = .ok (.iinc 3 1, 3) := by decide +kernel
theorem dX8_digest_28 : decode cX8_digest 28 = .ok (.goto (-22), 3) := by decide +kernel
theorem dX8_digest_31 : decode cX8_digest 31 = .ok (.iconst 0, 1) := by decide +kernel
theorem dX8_digest_32 : decode cX8_digest 32 = .ok (.istore_n 3, 1) := by decide +kernel
theorem dX8_digest_33 : decode cX8_digest 33 = .ok (.iload_n 3, 1) := by decide +kernel
theorem dX8_digest_34 : decode cX8_digest 34 = .ok (.aload_n 0, 1) := by decide +kernel
theorem dX8_digest_35 : decode cX8_digest 35 = .ok (.getfield 118, 3) := by decide +kernel
theorem dX8_digest_38 : decode cX8_digest 38 = .ok (.if_icmp .ge 58, 3) := by decide +kernel
theorem dX8_digest_41 : decode cX8_digest 41 = .ok (.iload_n 3, 1) := by decide +kernel
theorem dX8_digest_42 : decode cX8_digest 42 = .ok (.iconst 1, 1) := by decide +kernel
theorem dX8_digest_43 : decode cX8_digest 43 = .ok (.iadd, 1) := by decide +kernel
theorem dX8_digest_44 : decode cX8_digest 44 = .ok (.istore 4, 2) := by decide +kernel
theorem dX8_digest_46 : decode cX8_digest 46 = .ok (.iload 4, 2) := by decide +kernel
theorem dX8_digest_48 : decode cX8_digest 48 = .ok (.aload_n 0, 1) := by decide +kernel
theorem dX8_digest_49 : decode cX8_digest 49 = .ok (.getfield 118, 3) := by decide +kernel
theorem dX8_digest_52 : decode cX8_digest 52 = .ok (.if_icmp .ge 38, 3) := by decide +kernel
theorem dX8_digest_55 : decode cX8_digest 55 = .ok (.ldc2_w 300, 3) := by decide +kernel
theorem dX8_digest_58 : decode cX8_digest 58 = .ok (.lload_n 1, 1) := by decide +kernel
theorem dX8_digest_59 : decode cX8_digest 59 = .ok (.lmul, 1) := by decide +kernel
theorem dX8_digest_60 : decode cX8_digest 60 = .ok (.aload_n 0, 1) := by decide +kernel
theorem dX8_digest_61 : decode cX8_digest 61 = .ok (.iload_n 3, 1) := by decide +kernel
theorem dX8_digest_62 : decode cX8_digest 62 = .ok (.iload 4, 2) := by decide +kernel
theorem dX8_digest_64 : decode cX8_digest 64 = .ok (.invokevirtual 305, 3) := by decide +kernel
theorem dX8_digest_67 : decode cX8_digest 67 = .ok (.i2l, 1) := by decide +kernel
theorem dX8_digest_68 : decode cX8_digest 68 = .ok (.ladd, 1) := by decide +kernel
theorem dX8_digest_69 : decode cX8_digest 69 = .ok (.lstore_n 1, 1) := by decide +kernel
theorem dX8_digest_70 : decode cX8_digest 70 = .ok (.ldc2_w 300, 3) := by decide +kernel
theorem dX8_digest_73 : decode cX8_digest 73 = .ok (.lload_n 1, 1) := by decide +kernel
theorem dX8_digest_74 : decode cX8_digest 74 = .ok (.lmul, 1) := by decide +kernel
theorem dX8_digest_75 : decode cX8_digest 75 = .ok (.aload_n 0, 1) := by decide +kernel
theorem dX8_digest_76 : decode cX8_digest 76 = .ok (.iload_n 3, 1) := by decide +kernel
theorem dX8_digest_77 : decode cX8_digest 77 = .ok (.iload 4, 2) := by decide +kernel
theorem dX8_digest_79 : decode cX8_digest 79 = .ok (.invokevirtual 308, 3) := by decide +kernel
theorem dX8_digest_82 : decode cX8_digest 82 = .ok (.ladd, 1) := by decide +kernel
theorem dX8_digest_83 : decode cX8_digest 83 = .ok (.lstore_n 1, 1) := by decide +kernel
theorem dX8_digest_84 : decode cX8_digest 84 = .ok (.iinc 4 1, 3) := by decide +kernel
theorem dX8_digest_87 : decode cX8_digest 87 = .ok (.goto (-41), 3) := by decide +kernel
theorem dX8_digest_90 : decode cX8_digest 90 = .ok (.iinc 3 1, 3) := by decide +kernel
theorem dX8_digest_93 : decode cX8_digest 93 = .ok (.goto (-60), 3) := by decide +kernel
theorem dX8_digest_96 : decode cX8_digest 96 = .ok (.iconst 0, 1) := by decide +kernel
theorem dX8_digest_97 : decode cX8_digest 97 = .ok (.istore_n 3, 1) := by decide +kernel
theorem dX8_digest_98 : decode cX8_digest 98 = .ok (.iload_n 3, 1) := by decide +kernel
theorem dX8_digest_99 : decode cX8_digest 99 = .ok (.sipush 256, 3) := by decide +kernel
theorem dX8_digest_102 : decode cX8_digest 102 = .ok (.if_icmp .ge 22, 3) := by decide +kernel
theorem dX8_digest_105 : decode cX8_digest 105 = .ok (.ldc2_w 300, 3) := by decide +kernel
theorem dX8_digest_108 : decode cX8_digest 108 = .ok (.lload_n 1, 1) := by decide +kernel
theorem dX8_digest_109 : decode cX8_digest 109 = .ok (.lmul, 1) := by decide +kernel
theorem dX8_digest_110 : decode cX8_digest 110 = .ok (.aload_n 0, 1) := by decide +kernel
theorem dX8_digest_111 : decode cX8_digest 111 = .ok (.getfield 50, 3) := by decide +kernel
theorem dX8_digest_114 : decode cX8_digest 114 = .ok (.iload_n 3, 1) := by decide +kernel
theorem dX8_digest_115 : decode cX8_digest 115 = .ok (.laload, 1) := by decide +kernel
theorem dX8_digest_116 : decode cX8_digest 116 = .ok (.ladd, 1) := by decide +kernel
theorem dX8_digest_117 : decode cX8_digest 117 = .ok (.lstore_n 1, 1) := by decide +kernel
theorem dX8_digest_118 : decode cX8_digest 118 = .ok (.iinc 3 1, 3) := by decide +kernel
theorem dX8_digest_121 : decode cX8_digest 121 = .ok (.goto (-23), 3) := by decide +kernel
theorem dX8_digest_124 : decode cX8_digest 124 = .ok (.lload_n 1, 1) := by decide +kernel
theorem dX8_digest_125 : decode cX8_digest 125 = .ok (.lreturn, 1) := by decide +kernel
