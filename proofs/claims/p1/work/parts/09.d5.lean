theorem dX9_init_41 : decode cX9_init 41 = .ok (.aload_n 0, 1) := by decide +kernel
theorem dX9_init_42 : decode cX9_init 42 = .ok (.iconst 2, 1) := by decide +kernel
theorem dX9_init_43 : decode cX9_init 43 = .ok (.newarray .int, 2) := by decide +kernel
theorem dX9_init_45 : decode cX9_init 45 = .ok (.putfield 27, 3) := by decide +kernel
theorem dX9_init_48 : decode cX9_init 48 = .ok (.aload_n 0, 1) := by decide +kernel
theorem dX9_init_49 : decode cX9_init 49 = .ok (.iconst 2, 1) := by decide +kernel
theorem dX9_init_50 : decode cX9_init 50 = .ok (.newarray .int, 2) := by decide +kernel
theorem dX9_init_52 : decode cX9_init 52 = .ok (.putfield 30, 3) := by decide +kernel
theorem dX9_init_55 : decode cX9_init 55 = .ok (.aload_n 0, 1) := by decide +kernel
theorem dX9_init_56 : decode cX9_init 56 = .ok (.iconst 2, 1) := by decide +kernel
theorem dX9_init_57 : decode cX9_init 57 = .ok (.newarray .int, 2) := by decide +kernel
theorem dX9_init_59 : decode cX9_init 59 = .ok (.putfield 33, 3) := by decide +kernel
theorem dX9_init_62 : decode cX9_init 62 = .ok (.aload_n 0, 1) := by decide +kernel
theorem dX9_init_63 : decode cX9_init 63 = .ok (.bipush 18, 2) := by decide +kernel
theorem dX9_init_65 : decode cX9_init 65 = .ok (.newarray .int, 2) := by decide +kernel
theorem dX9_init_67 : decode cX9_init 67 = .ok (.putfield 36, 3) := by decide +kernel
theorem dX9_init_70 : decode cX9_init 70 = .ok (.aload_n 0, 1) := by decide +kernel
theorem dX9_init_71 : decode cX9_init 71 = .ok (.bipush 18, 2) := by decide +kernel
theorem dX9_init_73 : decode cX9_init 73 = .ok (.newarray .int, 2) := by decide +kernel
theorem dX9_init_75 : decode cX9_init 75 = .ok (.putfield 39, 3) := by decide +kernel
theorem dX9_init_78 : decode cX9_init 78 = .ok (.aload_n 0, 1) := by decide +kernel
theorem dX9_init_79 : decode cX9_init 79 = .ok (.bipush 18, 2) := by decide +kernel
theorem dX9_init_81 : decode cX9_init 81 = .ok (.newarray .int, 2) := by decide +kernel
theorem dX9_init_83 : decode cX9_init 83 = .ok (.putfield 42, 3) := by decide +kernel
theorem dX9_init_86 : decode cX9_init 86 = .ok (.aload_n 0, 1) := by decide +kernel
theorem dX9_init_87 : decode cX9_init 87 = .ok (.sipush 162, 3) := by decide +kernel
theorem dX9_init_90 : decode cX9_init 90 = .ok (.newarray .int, 2) := by decide +kernel
theorem dX9_init_92 : decode cX9_init 92 = .ok (.putfield 45, 3) := by decide +kernel
theorem dX9_init_95 : decode cX9_init 95 = .ok (.aload_n 0, 1) := by decide +kernel
theorem dX9_init_96 : decode cX9_init 96 = .ok (.iconst 2, 1) := by decide +kernel
theorem dX9_init_97 : decode cX9_init 97 = .ok (.newarray .boolean, 2) := by decide +kernel
theorem dX9_init_99 : decode cX9_init 99 = .ok (.putfield 48, 3) := by decide +kernel
theorem dX9_init_102 : decode cX9_init 102 = .ok (.aload_n 0, 1) := by decide +kernel
theorem dX9_init_103 : decode cX9_init 103 = .ok (.iconst 2, 1) := by decide +kernel
theorem dX9_init_104 : decode cX9_init 104 = .ok (.newarray .boolean, 2) := by decide +kernel
theorem dX9_init_106 : decode cX9_init 106 = .ok (.putfield 52, 3) := by decide +kernel
theorem dX9_init_109 : decode cX9_init 109 = .ok (.aload_n 0, 1) := by decide +kernel
theorem dX9_init_110 : decode cX9_init 110 = .ok (.iconst 2, 1) := by decide +kernel
theorem dX9_init_111 : decode cX9_init 111 = .ok (.newarray .boolean, 2) := by decide +kernel
theorem dX9_init_113 : decode cX9_init 113 = .ok (.putfield 55, 3) := by decide +kernel
theorem dX9_init_116 : decode cX9_init 116 = .ok (.aload_n 0, 1) := by decide +kernel
theorem dX9_init_117 : decode cX9_init 117 = .ok (.bipush 18, 2) := by decide +kernel
theorem dX9_init_119 : decode cX9_init 119 = .ok (.newarray .long, 2) := by decide +kernel
theorem dX9_init_121 : decode cX9_init 121 = .ok (.putfield 58, 3) := by decide +kernel
theorem dX9_init_124 : decode cX9_init 124 = .ok (.aload_n 0, 1) := by decide +kernel
theorem dX9_init_125 : decode cX9_init 125 = .ok (.sipush 1000, 3) := by decide +kernel
theorem dX9_init_128 : decode cX9_init 128 = .ok (.newarray .int, 2) := by decide +kernel
theorem dX9_init_130 : decode cX9_init 130 = .ok (.putfield 62, 3) := by decide +kernel
theorem dX9_init_133 : decode cX9_init 133 = .ok (.aload_n 0, 1) := by decide +kernel
theorem dX9_init_134 : decode cX9_init 134 = .ok (.sipush 1000, 3) := by decide +kernel
theorem dX9_init_137 : decode cX9_init 137 = .ok (.newarray .int, 2) := by decide +kernel
theorem dX9_init_139 : decode cX9_init 139 = .ok (.putfield 65, 3) := by decide +kernel
theorem dX9_init_142 : decode cX9_init 142 = .ok (.aload_n 0, 1) := by decide +kernel
theorem dX9_init_143 : decode cX9_init 143 = .ok (.bipush 90, 2) := by decide +kernel
theorem dX9_init_145 : decode cX9_init 145 = .ok (.newarray .int, 2) := by decide +kernel
theorem dX9_init_147 : decode cX9_init 147 = .ok (.putfield 68, 3) := by decide +kernel
theorem dX9_init_150 : decode cX9_init 150 = .ok (.aload_n 0, 1) := by decide +kernel
theorem dX9_init_151 : decode cX9_init 151 = .ok (.bipush 90, 2) := by decide +kernel
theorem dX9_init_153 : decode cX9_init 153 = .ok (.newarray .int, 2) := by decide +kernel
theorem dX9_init_155 : decode cX9_init 155 = .ok (.putfield 71, 3) := by decide +kernel
theorem dX9_init_158 : decode cX9_init 158 = .ok (.aload_n 0, 1) := by decide +kernel
theorem dX9_init_159 : decode cX9_init 159 = .ok (.bipush 70, 2) := by decide +kernel
theorem dX9_init_161 : decode cX9_init 161 = .ok (.newarray .int, 2) := by decide +kernel
theorem dX9_init_163 : decode cX9_init 163 = .ok (.putfield 74, 3) := by decide +kernel
theorem dX9_init_166 : decode cX9_init 166 = .ok (.aload_n 0, 1) := by decide +kernel
theorem dX9_init_167 : decode cX9_init 167 = .ok (.bipush 81, 2) := by decide +kernel
theorem dX9_init_169 : decode cX9_init 169 = .ok (.newarray .int, 2) := by decide +kernel
theorem dX9_init_171 : decode cX9_init 171 = .ok (.putfield 77, 3) := by decide +kernel
theorem dX9_init_174 : decode cX9_init 174 = .ok (.aload_n 0, 1) := by decide +kernel
theorem dX9_init_175 : decode cX9_init 175 = .ok (.bipush 9, 2) := by decide +kernel
theorem dX9_init_177 : decode cX9_init 177 = .ok (.newarray .int, 2) := by decide +kernel
theorem dX9_init_179 : decode cX9_init 179 = .ok (.putfield 80, 3) := by decide +kernel
theorem dX9_init_182 : decode cX9_init 182 = .ok (.aload_n 0, 1) := by decide +kernel
theorem dX9_init_183 : decode cX9_init 183 = .ok (.bipush 9, 2) := by decide +kernel
theorem dX9_init_185 : decode cX9_init 185 = .ok (.newarray .int, 2) := by decide +kernel
theorem dX9_init_187 : decode cX9_init 187 = .ok (.putfield 83, 3) := by decide +kernel
theorem dX9_init_190 : decode cX9_init 190 = .ok (.aload_n 0, 1) := by decide +kernel
theorem dX9_init_191 : decode cX9_init 191 = .ok (.iconst 1, 1) := by decide +kernel
theorem dX9_init_192 : decode cX9_init 192 = .ok (.putfield 86, 3) := by decide +kernel
theorem dX9_init_195 : decode cX9_init 195 = .ok (.aload_n 0, 1) := by decide +kernel
theorem dX9_init_196 : decode cX9_init 196 = .ok (.bipush 9, 2) := by decide +kernel
theorem dX9_init_198 : decode cX9_init 198 = .ok (.newarray .int, 2) := by decide +kernel
theorem dX9_init_200 : decode cX9_init 200 = .ok (.putfield 89, 3) := by decide +kernel
theorem dX9_init_203 : decode cX9_init 203 = .ok (.aload_n 0, 1) := by decide +kernel
theorem dX9_init_204 : decode cX9_init 204 = .ok (.bipush 9, 2) := by decide +kernel
theorem dX9_init_206 : decode cX9_init 206 = .ok (.newarray .int, 2) := by decide +kernel
theorem dX9_init_208 : decode cX9_init 208 = .ok (.putfield 92, 3) := by decide +kernel
theorem dX9_init_211 : decode cX9_init 211 = .ok (.aload_n 0, 1) := by decide +kernel
theorem dX9_init_212 : decode cX9_init 212 = .ok (.bipush 9, 2) := by decide +kernel
theorem dX9_init_214 : decode cX9_init 214 = .ok (.newarray .int, 2) := by decide +kernel
theorem dX9_init_216 : decode cX9_init 216 = .ok (.putfield 95, 3) := by decide +kernel
theorem dX9_init_219 : decode cX9_init 219 = .ok (.aload_n 0, 1) := by decide +kernel
theorem dX9_init_220 : decode cX9_init 220 = .ok (.bipush 9, 2) := by decide +kernel
theorem dX9_init_222 : decode cX9_init 222 = .ok (.newarray .int, 2) := by decide +kernel
theorem dX9_init_224 : decode cX9_init 224 = .ok (.putfield 98, 3) := by decide +kernel
theorem dX9_init_227 : decode cX9_init 227 = .ok (.aload_n 0, 1) := by decide +kernel
theorem dX9_init_228 : decode cX9_init 228 = .ok (.bipush 9, 2) := by decide +kernel
theorem dX9_init_230 : decode cX9_init 230 = .ok (.newarray .int, 2) := by decide +kernel
theorem dX9_init_232 : decode cX9_init 232 = .ok (.putfield 101, 3) := by decide +kernel
theorem dX9_init_235 : decode cX9_init 235 = .ok (.aload_n 0, 1) := by decide +kernel
theorem dX9_init_236 : decode cX9_init 236 = .ok (.sipush 2520, 3) := by decide +kernel
theorem dX9_init_239 : decode cX9_init 239 = .ok (.newarray .int, 2) := by decide +kernel
theorem dX9_init_241 : decode cX9_init 241 = .ok (.putfield 104, 3) := by decide +kernel
theorem dX9_init_244 : decode cX9_init 244 = .ok (.aload_n 0, 1) := by decide +kernel
theorem dX9_init_245 : decode cX9_init 245 = .ok (.sipush 2520, 3) := by decide +kernel
theorem dX9_init_248 : decode cX9_init 248 = .ok (.newarray .int, 2) := by decide +kernel
theorem dX9_init_250 : decode cX9_init 250 = .ok (.putfield 107, 3) := by decide +kernel
theorem dX9_init_253 : decode cX9_init 253 = .ok (.aload_n 0, 1) := by decide +kernel
theorem dX9_init_254 : decode cX9_init 254 = .ok (.bipush 20, 2) := by decide +kernel
theorem dX9_init_256 : decode cX9_init 256 = .ok (.newarray .int, 2) := by decide +kernel
theorem dX9_init_258 : decode cX9_init 258 = .ok (.putfield 110, 3) := by decide +kernel
theorem dX9_init_261 : decode cX9_init 261 = .ok (.aload_n 0, 1) := by decide +kernel
theorem dX9_init_262 : decode cX9_init 262 = .ok (.bipush 20, 2) := by decide +kernel
theorem dX9_init_264 : decode cX9_init 264 = .ok (.newarray .int, 2) := by decide +kernel
theorem dX9_init_266 : decode cX9_init 266 = .ok (.putfield 113, 3) := by decide +kernel
theorem dX9_init_269 : decode cX9_init 269 = .ok (.aload_n 0, 1) := by decide +kernel
theorem dX9_init_270 : decode cX9_init 270 = .ok (.bipush 20, 2) := by decide +kernel
theorem dX9_init_272 : decode cX9_init 272 = .ok (.newarray .int, 2) := by decide +kernel
theorem dX9_init_274 : decode cX9_init 274 = .ok (.putfield 116, 3) := by decide +kernel
theorem dX9_init_277 : decode cX9_init 277 = .ok (.aload_n 0, 1) := by decide +kernel
theorem dX9_init_278 : decode cX9_init 278 = .ok (.bipush 20, 2) := by decide +kernel
theorem dX9_init_280 : decode cX9_init 280 = .ok (.newarray .int, 2) := by decide +kernel
theorem dX9_init_282 : decode cX9_init 282 = .ok (.putfield 119, 3) := by decide +kernel
theorem dX9_init_285 : decode cX9_init 285 = .ok (.aload_n 0, 1) := by decide +kernel
theorem dX9_init_286 : decode cX9_init 286 = .ok (.bipush 9, 2) := by decide +kernel
theorem dX9_init_288 : decode cX9_init 288 = .ok (.newarray .int, 2) := by decide +kernel
theorem dX9_init_290 : decode cX9_init 290 = .ok (.putfield 122, 3) := by decide +kernel
theorem dX9_init_293 : decode cX9_init 293 = .ok (.aload_n 0, 1) := by decide +kernel
theorem dX9_init_294 : decode cX9_init 294 = .ok (.bipush 20, 2) := by decide +kernel
theorem dX9_init_296 : decode cX9_init 296 = .ok (.newarray .boolean, 2) := by decide +kernel
theorem dX9_init_298 : decode cX9_init 298 = .ok (.putfield 125, 3) := by decide +kernel
theorem dX9_init_301 : decode cX9_init 301 = .ok (.aload_n 0, 1) := by decide +kernel
theorem dX9_init_302 : decode cX9_init 302 = .ok (.bipush 20, 2) := by decide +kernel
theorem dX9_init_304 : decode cX9_init 304 = .ok (.newarray .boolean, 2) := by decide +kernel
theorem dX9_init_306 : decode cX9_init 306 = .ok (.putfield 128, 3) := by decide +kernel
theorem dX9_init_309 : decode cX9_init 309 = .ok (.aload_n 0, 1) := by decide +kernel
theorem dX9_init_310 : decode cX9_init 310 = .ok (.iconst 3, 1) := by decide +kernel
theorem dX9_init_311 : decode cX9_init 311 = .ok (.newarray .int, 2) := by decide +kernel
theorem dX9_init_313 : decode cX9_init 313 = .ok (.putfield 131, 3) := by decide +kernel
theorem dX9_init_316 : decode cX9_init 316 = .ok (.aload_n 0, 1) := by decide +kernel
theorem dX9_init_317 : decode cX9_init 317 = .ok (.iconst 3, 1) := by decide +kernel
theorem dX9_init_318 : decode cX9_init 318 = .ok (.newarray .int, 2) := by decide +kernel
theorem dX9_init_320 : decode cX9_init 320 = .ok (.putfield 134, 3) := by decide +kernel
theorem dX9_init_323 : decode cX9_init 323 = .ok (.aload_n 0, 1) := by decide +kernel
theorem dX9_init_324 : decode cX9_init 324 = .ok (.iconst 3, 1) := by decide +kernel
theorem dX9_init_325 : decode cX9_init 325 = .ok (.newarray .int, 2) := by decide +kernel
theorem dX9_init_327 : decode cX9_init 327 = .ok (.putfield 137, 3) := by decide +kernel
theorem dX9_init_330 : decode cX9_init 330 = .ok (.aload_n 0, 1) := by decide +kernel
theorem dX9_init_331 : decode cX9_init 331 = .ok (.sipush 243, 3) := by decide +kernel
theorem dX9_init_334 : decode cX9_init 334 = .ok (.newarray .int, 2) := by decide +kernel
theorem dX9_init_336 : decode cX9_init 336 = .ok (.putfield 140, 3) := by decide +kernel
theorem dX9_init_339 : decode cX9_init 339 = .ok (.aload_n 0, 1) := by decide +kernel
theorem dX9_init_340 : decode cX9_init 340 = .ok (.bipush 27, 2) := by decide +kernel
theorem dX9_init_342 : decode cX9_init 342 = .ok (.newarray .int, 2) := by decide +kernel
theorem dX9_init_344 : decode cX9_init 344 = .ok (.putfield 143, 3) := by decide +kernel
theorem dX9_init_347 : decode cX9_init 347 = .ok (.aload_n 0, 1) := by decide +kernel
theorem dX9_init_348 : decode cX9_init 348 = .ok (.iconst 3, 1) := by decide +kernel
theorem dX9_init_349 : decode cX9_init 349 = .ok (.newarray .boolean, 2) := by decide +kernel
theorem dX9_init_351 : decode cX9_init 351 = .ok (.putfield 146, 3) := by decide +kernel
theorem dX9_init_354 : decode cX9_init 354 = .ok (.aload_n 0, 1) := by decide +kernel
theorem dX9_init_355 : decode cX9_init 355 = .ok (.invokevirtual 149, 3) := by decide +kernel
theorem dX9_init_358 : decode cX9_init 358 = .ok (.aload_n 0, 1) := by decide +kernel
theorem dX9_init_359 : decode cX9_init 359 = .ok (.invokevirtual 152, 3) := by decide +kernel
theorem dX9_init_362 : decode cX9_init 362 = .ok (.iconst 0, 1) := by decide +kernel
theorem dX9_init_363 : decode cX9_init 363 = .ok (.istore_n 1, 1) := by decide +kernel
theorem dX9_init_364 : decode cX9_init 364 = .ok (.iload_n 1, 1) := by decide +kernel
theorem dX9_init_365 : decode cX9_init 365 = .ok (.iconst 3, 1) := by decide +kernel
theorem dX9_init_366 : decode cX9_init 366 = .ok (.if_icmp .ge 16, 3) := by decide +kernel
theorem dX9_init_369 : decode cX9_init 369 = .ok (.aload_n 0, 1) := by decide +kernel
theorem dX9_init_370 : decode cX9_init 370 = .ok (.getfield 131, 3) := by decide +kernel
theorem dX9_init_373 : decode cX9_init 373 = .ok (.iload_n 1, 1) := by decide +kernel
theorem dX9_init_374 : decode cX9_init 374 = .ok (.iconst (-1), 1) := by decide +kernel
theorem dX9_init_375 : decode cX9_init 375 = .ok (.iastore, 1) := by decide +kernel
theorem dX9_init_376 : decode cX9_init 376 = .ok (.iinc 1 1, 3) := by decide +kernel
theorem dX9_init_379 : decode cX9_init 379 = .ok (.goto (-15), 3) := by decide +kernel
theorem dX9_init_382 : decode cX9_init 382 = .ok (.return_, 1) := by decide +kernel
theorem dX9_isGood_0 : decode cX9_isGood 0 = .ok (.aload_n 0, 1) := by decide +kernel
theorem dX9_isGood_1 : decode cX9_isGood 1 = .ok (.getfield 158, 3) := by decide +kernel
theorem dX9_isGood_4 : decode cX9_isGood 4 = .ok (.ifCond .ne 7, 3) := by decide +kernel
theorem dX9_isGood_7 : decode cX9_isGood 7 = .ok (.iconst 1, 1) := by decide +kernel
theorem dX9_isGood_8 : decode cX9_isGood 8 = .ok (.goto 4, 3) := by decide +kernel
theorem dX9_isGood_12 : decode cX9_isGood 12 = .ok (.ireturn, 1) := by decide +kernel
theorem dX9_isHouse_0 : decode cX9_isHouse 0 = .ok (.iload_n 1, 1) := by decide +kernel
theorem dX9_isHouse_1 : decode cX9_isHouse 1 = .ok (.iconst 0, 1) := by decide +kernel
theorem dX9_isHouse_2 : decode cX9_isHouse 2 = .ok (.aload_n 0, 1) := by decide +kernel
theorem dX9_isHouse_3 : decode cX9_isHouse 3 = .ok (.getfield 20, 3) := by decide +kernel
theorem dX9_isHouse_6 : decode cX9_isHouse 6 = .ok (.aload_n 0, 1) := by decide +kernel
theorem dX9_isHouse_7 : decode cX9_isHouse 7 = .ok (.getfield 248, 3) := by decide +kernel
theorem dX9_isHouse_10 : decode cX9_isHouse 10 = .ok (.iaload, 1) := by decide +kernel
theorem dX9_isHouse_11 : decode cX9_isHouse 11 = .ok (.iconst 1, 1) := by decide +kernel
theorem dX9_isHouse_12 : decode cX9_isHouse 12 = .ok (.isub, 1) := by decide +kernel
theorem dX9_isHouse_13 : decode cX9_isHouse 13 = .ok (.invokestatic 361, 3) := by decide +kernel
theorem dX9_isHouse_16 : decode cX9_isHouse 16 = .ok (.ireturn, 1) := by decide +kernel
theorem dX9_isIn_0 : decode cX9_isIn 0 = .ok (.iload_n 0, 1) := by decide +kernel
theorem dX9_isIn_1 : decode cX9_isIn 1 = .ok (.iload_n 1, 1) := by decide +kernel
theorem dX9_isIn_2 : decode cX9_isIn 2 = .ok (.if_icmp .lt 12, 3) := by decide +kernel
theorem dX9_isIn_5 : decode cX9_isIn 5 = .ok (.iload_n 0, 1) := by decide +kernel
theorem dX9_isIn_6 : decode cX9_isIn 6 = .ok (.iload_n 2, 1) := by decide +kernel
theorem dX9_isIn_7 : decode cX9_isIn 7 = .ok (.if_icmp .gt 7, 3) := by decide +kernel
theorem dX9_isIn_10 : decode cX9_isIn 10 = .ok (.iconst 1, 1) := by decide +kernel
theorem dX9_isIn_11 : decode cX9_isIn 11 = .ok (.goto 4, 3) := by decide +kernel
theorem dX9_isIn_14 : decode cX9_isIn 14 = .ok (.iconst 0, 1) := by decide +kernel
theorem dX9_isIn_15 : decode cX9_isIn 15 = .ok (.ireturn, 1) := by decide +kernel
theorem dX9_isRing_0 : decode cX9_isRing 0 = .ok (.aload_n 0, 1) := by decide +kernel
theorem dX9_isRing_1 : decode cX9_isRing 1 = .ok (.getfield 52, 3) := by decide +kernel
theorem dX9_isRing_4 : decode cX9_isRing 4 = .ok (.aload_n 0, 1) := by decide +kernel
theorem dX9_isRing_5 : decode cX9_isRing 5 = .ok (.getfield 248, 3) := by decide +kernel
theorem dX9_isRing_8 : decode cX9_isRing 8 = .ok (.baload, 1) := by decide +kernel
theorem dX9_isRing_9 : decode cX9_isRing 9 = .ok (.ifCond .ne 15, 3) := by decide +kernel
theorem dX9_isRing_12 : decode cX9_isRing 12 = .ok (.aload_n 0, 1) := by decide +kernel
theorem dX9_isRing_13 : decode cX9_isRing 13 = .ok (.invokevirtual 381, 3) := by decide +kernel
theorem dX9_isRing_16 : decode cX9_isRing 16 = .ok (.iconst 2, 1) := by decide +kernel
theorem dX9_isRing_17 : decode cX9_isRing 17 = .ok (.if_icmp .le 7, 3) := by decide +kernel
theorem dX9_isRing_24 : decode cX9_isRing 24 = .ok (.iconst 0, 1) := by decide +kernel
theorem dX9_isRing_25 : decode cX9_isRing 25 = .ok (.ireturn, 1) := by decide +kernel
theorem dX9_judge_0 : decode cX9_judge 0 = .ok (.aload_n 0, 1) := by decide +kernel
theorem dX9_judge_1 : decode cX9_judge 1 = .ok (.invokevirtual 381, 3) := by decide +kernel
theorem dX9_judge_4 : decode cX9_judge 4 = .ok (.istore_n 2, 1) := by decide +kernel
theorem dX9_judge_5 : decode cX9_judge 5 = .ok (.aload_n 0, 1) := by decide +kernel
theorem dX9_judge_6 : decode cX9_judge 6 = .ok (.getfield 355, 3) := by decide +kernel
theorem dX9_judge_9 : decode cX9_judge 9 = .ok (.iload_n 2, 1) := by decide +kernel
theorem dX9_judge_10 : decode cX9_judge 10 = .ok (.if_icmp .ne 12, 3) := by decide +kernel
theorem dX9_judge_13 : decode cX9_judge 13 = .ok (.iload_n 1, 1) := by decide +kernel
theorem dX9_judge_14 : decode cX9_judge 14 = .ok (.iconst 0, 1) := by decide +kernel
theorem dX9_judge_15 : decode cX9_judge 15 = .ok (.iconst 2, 1) := by decide +kernel
theorem dX9_judge_16 : decode cX9_judge 16 = .ok (.invokestatic 361, 3) := by decide +kernel
theorem dX9_judge_19 : decode cX9_judge 19 = .ok (.ifCond .ne 6, 3) := by decide +kernel
theorem dX9_judge_22 : decode cX9_judge 22 = .ok (.bipush (-2), 2) := by decide +kernel
theorem dX9_judge_24 : decode cX9_judge 24 = .ok (.ireturn, 1) := by decide +kernel
theorem dX9_judge_25 : decode cX9_judge 25 = .ok (.iconst 0, 1) := by decide +kernel
theorem dX9_judge_26 : decode cX9_judge 26 = .ok (.istore_n 3, 1) := by decide +kernel
theorem dX9_judge_27 : decode cX9_judge 27 = .ok (.iload_n 3, 1) := by decide +kernel
theorem dX9_judge_28 : decode cX9_judge 28 = .ok (.iload_n 2, 1) := by decide +kernel
theorem dX9_judge_29 : decode cX9_judge 29 = .ok (.if_icmp .ge 21, 3) := by decide +kernel
theorem dX9_judge_50 : decode cX9_judge 50 = .ok (.iload_n 1, 1) := by decide +kernel
theorem dX9_judge_51 : decode cX9_judge 51 = .ok (.ifCond .le 20, 3) := by decide +kernel
theorem dX9_judge_54 : decode cX9_judge 54 = .ok (.iload_n 1, 1) := by decide +kernel
theorem dX9_judge_55 : decode cX9_judge 55 = .ok (.iconst 1, 1) := by decide +kernel
theorem dX9_judge_56 : decode cX9_judge 56 = .ok (.if_icmp .ne 10, 3) := by decide +kernel
theorem dX9_judge_59 : decode cX9_judge 59 = .ok (.aload_n 0, 1) := by decide +kernel
theorem dX9_judge_60 : decode cX9_judge 60 = .ok (.invokevirtual 387, 3) := by decide +kernel
theorem dX9_judge_63 : decode cX9_judge 63 = .ok (.goto 7, 3) := by decide +kernel
theorem dX9_judge_66 : decode cX9_judge 66 = .ok (.aload_n 0, 1) := by decide +kernel
theorem dX9_judge_67 : decode cX9_judge 67 = .ok (.invokevirtual 390, 3) := by decide +kernel
theorem dX9_judge_70 : decode cX9_judge 70 = .ok (.ireturn, 1) := by decide +kernel
theorem dX9_judge_71 : decode cX9_judge 71 = .ok (.aload_n 0, 1) := by decide +kernel
theorem dX9_judge_72 : decode cX9_judge 72 = .ok (.invokevirtual 393, 3) := by decide +kernel
theorem dX9_judge_75 : decode cX9_judge 75 = .ok (.aload_n 0, 1) := by decide +kernel
theorem dX9_judge_76 : decode cX9_judge 76 = .ok (.invokevirtual 396, 3) := by decide +kernel
theorem dX9_judge_79 : decode cX9_judge 79 = .ok (.ireturn, 1) := by decide +kernel
theorem dX9_keepBest_0 : decode cX9_keepBest 0 = .ok (.aload_n 0, 1) := by decide +kernel
theorem dX9_keepBest_1 : decode cX9_keepBest 1 = .ok (.iconst 1, 1) := by decide +kernel
theorem dX9_keepBest_2 : decode cX9_keepBest 2 = .ok (.putfield 405, 3) := by decide +kernel
theorem dX9_keepBest_5 : decode cX9_keepBest 5 = .ok (.aload_n 0, 1) := by decide +kernel
theorem dX9_keepBest_6 : decode cX9_keepBest 6 = .ok (.iload_n 1, 1) := by decide +kernel
theorem dX9_keepBest_7 : decode cX9_keepBest 7 = .ok (.putfield 408, 3) := by decide +kernel
theorem dX9_keepBest_10 : decode cX9_keepBest 10 = .ok (.iconst 0, 1) := by decide +kernel
theorem dX9_keepBest_11 : decode cX9_keepBest 11 = .ok (.istore_n 2, 1) := by decide +kernel
theorem dX9_keepBest_12 : decode cX9_keepBest 12 = .ok (.iload_n 2, 1) := by decide +kernel
theorem dX9_keepBest_13 : decode cX9_keepBest 13 = .ok (.aload_n 0, 1) := by decide +kernel
theorem dX9_keepBest_14 : decode cX9_keepBest 14 = .ok (.invokevirtual 381, 3) := by decide +kernel
theorem dX9_keepBest_17 : decode cX9_keepBest 17 = .ok (.if_icmp .ge 21, 3) := by decide +kernel
theorem dX9_keepBest_38 : decode cX9_keepBest 38 = .ok (.return_, 1) := by decide +kernel
theorem dX9_later_0 : decode cX9_later 0 = .ok (.iload_n 1, 1) := by decide +kernel
theorem dX9_later_1 : decode cX9_later 1 = .ok (.iconst 0, 1) := by decide +kernel
theorem dX9_later_2 : decode cX9_later 2 = .ok (.sipush 1000, 3) := by decide +kernel
theorem dX9_later_5 : decode cX9_later 5 = .ok (.invokestatic 361, 3) := by decide +kernel
theorem dX9_later_8 : decode cX9_later 8 = .ok (.ifCond .eq 15, 3) := by decide +kernel
theorem dX9_later_11 : decode cX9_later 11 = .ok (.aload_n 0, 1) := by decide +kernel
theorem dX9_later_12 : decode cX9_later 12 = .ok (.getfield 477, 3) := by decide +kernel
theorem dX9_later_15 : decode cX9_later 15 = .ok (.iload_n 1, 1) := by decide +kernel
theorem dX9_later_16 : decode cX9_later 16 = .ok (.iadd, 1) := by decide +kernel
theorem dX9_later_17 : decode cX9_later 17 = .ok (.ldc_w 484, 3) := by decide +kernel
theorem dX9_later_20 : decode cX9_later 20 = .ok (.if_icmp .le 5, 3) := by decide +kernel
theorem dX9_later_23 : decode cX9_later 23 = .ok (.iconst (-1), 1) := by decide +kernel
theorem dX9_later_24 : decode cX9_later 24 = .ok (.ireturn, 1) := by decide +kernel
theorem dX9_later_25 : decode cX9_later 25 = .ok (.aload_n 0, 1) := by decide +kernel
theorem dX9_later_26 : decode cX9_later 26 = .ok (.dup, 1) := by decide +kernel
theorem dX9_later_27 : decode cX9_later 27 = .ok (.getfield 477, 3) := by decide +kernel
theorem dX9_later_30 : decode cX9_later 30 = .ok (.iload_n 1, 1) := by decide +kernel
theorem dX9_later_31 : decode cX9_later 31 = .ok (.iadd, 1) := by decide +kernel
theorem dX9_later_32 : decode cX9_later 32 = .ok (.putfield 477, 3) := by decide +kernel
theorem dX9_later_35 : decode cX9_later 35 = .ok (.aload_n 0, 1) := by decide +kernel
theorem dX9_later_36 : decode cX9_later 36 = .ok (.getfield 477, 3) := by decide +kernel
theorem dX9_later_39 : decode cX9_later 39 = .ok (.ireturn, 1) := by decide +kernel
theorem dX9_lawful_0 : decode cX9_lawful 0 = .ok (.aload_n 0, 1) := by decide +kernel
theorem dX9_lawful_1 : decode cX9_lawful 1 = .ok (.iconst 0, 1) := by decide +kernel
theorem dX9_lawful_2 : decode cX9_lawful 2 = .ok (.invokevirtual 440, 3) := by decide +kernel
theorem dX9_lawful_5 : decode cX9_lawful 5 = .ok (.aload_n 0, 1) := by decide +kernel
theorem dX9_lawful_6 : decode cX9_lawful 6 = .ok (.getfield 423, 3) := by decide +kernel
theorem dX9_lawful_9 : decode cX9_lawful 9 = .ok (.ireturn, 1) := by decide +kernel
theorem dX9_layBest_0 : decode cX9_layBest 0 = .ok (.aload_n 0, 1) := by decide +kernel
theorem dX9_layBest_1 : decode cX9_layBest 1 = .ok (.aload_n 0, 1) := by decide +kernel
theorem dX9_layBest_2 : decode cX9_layBest 2 = .ok (.getfield 405, 3) := by decide +kernel
theorem dX9_layBest_5 : decode cX9_layBest 5 = .ok (.putfield 358, 3) := by decide +kernel
theorem dX9_layBest_8 : decode cX9_layBest 8 = .ok (.iconst 0, 1) := by decide +kernel
theorem dX9_layBest_9 : decode cX9_layBest 9 = .ok (.istore_n 1, 1) := by decide +kernel
theorem dX9_layBest_10 : decode cX9_layBest 10 = .ok (.iload_n 1, 1) := by decide +kernel
theorem dX9_layBest_11 : decode cX9_layBest 11 = .ok (.aload_n 0, 1) := by decide +kernel
theorem dX9_layBest_12 : decode cX9_layBest 12 = .ok (.invokevirtual 381, 3) := by decide +kernel
theorem dX9_layBest_15 : decode cX9_layBest 15 = .ok (.if_icmp .ge 28, 3) := by decide +kernel
theorem dX9_layBest_43 : decode cX9_layBest 43 = .ok (.return_, 1) := by decide +kernel
theorem dX9_layClasses_0 : decode cX9_layClasses 0 = .ok (.aload_n 0, 1) := by decide +kernel
theorem dX9_layClasses_1 : decode cX9_layClasses 1 = .ok (.iconst 0, 1) := by decide +kernel
theorem dX9_layClasses_2 : decode cX9_layClasses 2 = .ok (.putfield 358, 3) := by decide +kernel
theorem dX9_layClasses_5 : decode cX9_layClasses 5 = .ok (.aload_n 0, 1) := by decide +kernel
theorem dX9_layClasses_6 : decode cX9_layClasses 6 = .ok (.invokevirtual 381, 3) := by decide +kernel
theorem dX9_layClasses_9 : decode cX9_layClasses 9 = .ok (.bipush 7, 2) := by decide +kernel
theorem dX9_layClasses_11 : decode cX9_layClasses 11 = .ok (.if_icmp .le 5, 3) := by decide +kernel
theorem dX9_layClasses_16 : decode cX9_layClasses 16 = .ok (.aload_n 0, 1) := by decide +kernel
theorem dX9_layClasses_17 : decode cX9_layClasses 17 = .ok (.iconst 0, 1) := by decide +kernel
theorem dX9_layClasses_18 : decode cX9_layClasses 18 = .ok (.putfield 459, 3) := by decide +kernel
theorem dX9_layClasses_21 : decode cX9_layClasses 21 = .ok (.aload_n 0, 1) := by decide +kernel
theorem dX9_layClasses_22 : decode cX9_layClasses 22 = .ok (.bipush 6, 2) := by decide +kernel
theorem dX9_layClasses_24 : decode cX9_layClasses 24 = .ok (.invokevirtual 440, 3) := by decide +kernel
theorem dX9_layClasses_27 : decode cX9_layClasses 27 = .ok (.iconst 1, 1) := by decide +kernel
theorem dX9_layClasses_28 : decode cX9_layClasses 28 = .ok (.ireturn, 1) := by decide +kernel
theorem dX9_layLets_0 : decode cX9_layLets 0 = .ok (.iconst 0, 1) := by decide +kernel
theorem dX9_layLets_1 : decode cX9_layLets 1 = .ok (.istore_n 1, 1) := by decide +kernel
theorem dX9_layLets_2 : decode cX9_layLets 2 = .ok (.iload_n 1, 1) := by decide +kernel
theorem dX9_layLets_3 : decode cX9_layLets 3 = .ok (.aload_n 0, 1) := by decide +kernel
theorem dX9_layLets_4 : decode cX9_layLets 4 = .ok (.getfield 20, 3) := by decide +kernel
theorem dX9_layLets_7 : decode cX9_layLets 7 = .ok (.aload_n 0, 1) := by decide +kernel
theorem dX9_layLets_8 : decode cX9_layLets 8 = .ok (.getfield 248, 3) := by decide +kernel
theorem dX9_layLets_11 : decode cX9_layLets 11 = .ok (.iaload, 1) := by decide +kernel
theorem dX9_layLets_12 : decode cX9_layLets 12 = .ok (.if_icmp .ge 79, 3) := by decide +kernel
theorem dX9_layLets_91 : decode cX9_layLets 91 = .ok (.return_, 1) := by decide +kernel
theorem dX9_let_0 : decode cX9_let 0 = .ok (.aload_n 0, 1) := by decide +kernel
theorem dX9_let_1 : decode cX9_let 1 = .ok (.iload_n 1, 1) := by decide +kernel
theorem dX9_let_2 : decode cX9_let 2 = .ok (.invokevirtual 371, 3) := by decide +kernel
theorem dX9_let_5 : decode cX9_let 5 = .ok (.ifCond .eq 32, 3) := by decide +kernel
theorem dX9_let_37 : decode cX9_let 37 = .ok (.iconst (-1), 1) := by decide +kernel
theorem dX9_let_38 : decode cX9_let 38 = .ok (.goto 17, 3) := by decide +kernel
theorem dX9_let_55 : decode cX9_let 55 = .ok (.ireturn, 1) := by decide +kernel
theorem dX9_lies_0 : decode cX9_lies 0 = .ok (.aload_n 0, 1) := by decide +kernel
theorem dX9_lies_1 : decode cX9_lies 1 = .ok (.getfield 358, 3) := by decide +kernel
theorem dX9_lies_4 : decode cX9_lies 4 = .ok (.ifCond .eq 26, 3) := by decide +kernel
theorem dX9_lies_30 : decode cX9_lies 30 = .ok (.iconst (-1), 1) := by decide +kernel
theorem dX9_lies_31 : decode cX9_lies 31 = .ok (.ireturn, 1) := by decide +kernel
theorem dX9_lift_0 : decode cX9_lift 0 = .ok (.aload_n 0, 1) := by decide +kernel
theorem dX9_lift_1 : decode cX9_lift 1 = .ok (.invokevirtual 393, 3) := by decide +kernel
theorem dX9_lift_4 : decode cX9_lift 4 = .ok (.aload_n 0, 1) := by decide +kernel
theorem dX9_lift_5 : decode cX9_lift 5 = .ok (.iconst 0, 1) := by decide +kernel
theorem dX9_lift_6 : decode cX9_lift 6 = .ok (.putfield 405, 3) := by decide +kernel
theorem dX9_lift_9 : decode cX9_lift 9 = .ok (.aload_n 0, 1) := by decide +kernel
theorem dX9_lift_10 : decode cX9_lift 10 = .ok (.invokevirtual 381, 3) := by decide +kernel
theorem dX9_lift_13 : decode cX9_lift 13 = .ok (.istore_n 1, 1) := by decide +kernel
theorem dX9_lift_14 : decode cX9_lift 14 = .ok (.aload_n 0, 1) := by decide +kernel
theorem dX9_lift_15 : decode cX9_lift 15 = .ok (.getfield 345, 3) := by decide +kernel
theorem dX9_lift_18 : decode cX9_lift 18 = .ok (.istore_n 2, 1) := by decide +kernel
theorem dX9_lift_19 : decode cX9_lift 19 = .ok (.iconst 0, 1) := by decide +kernel
theorem dX9_lift_20 : decode cX9_lift 20 = .ok (.istore_n 3, 1) := by decide +kernel
theorem dX9_lift_21 : decode cX9_lift 21 = .ok (.iload_n 1, 1) := by decide +kernel
theorem dX9_lift_22 : decode cX9_lift 22 = .ok (.ifCond .ne 8, 3) := by decide +kernel
theorem dX9_lift_25 : decode cX9_lift 25 = .ok (.aload_n 0, 1) := by decide +kernel
theorem dX9_lift_26 : decode cX9_lift 26 = .ok (.iconst 0, 1) := by decide +kernel
theorem dX9_lift_27 : decode cX9_lift 27 = .ok (.invokevirtual 429, 3) := by decide +kernel
theorem dX9_lift_30 : decode cX9_lift 30 = .ok (.aload_n 0, 1) := by decide +kernel
theorem dX9_lift_31 : decode cX9_lift 31 = .ok (.getfield 89, 3) := by decide +kernel
theorem dX9_lift_34 : decode cX9_lift 34 = .ok (.iconst 0, 1) := by decide +kernel
theorem dX9_lift_35 : decode cX9_lift 35 = .ok (.iconst (-1), 1) := by decide +kernel
theorem dX9_lift_36 : decode cX9_lift 36 = .ok (.iastore, 1) := by decide +kernel
theorem dX9_lift_37 : decode cX9_lift 37 = .ok (.iload_n 3, 1) := by decide +kernel
theorem dX9_lift_38 : decode cX9_lift 38 = .ok (.ifCond .lt 190, 3) := by decide +kernel
theorem dX9_lift_41 : decode cX9_lift 41 = .ok (.iload_n 1, 1) := by decide +kernel
theorem dX9_lift_42 : decode cX9_lift 42 = .ok (.ifCond .le 186, 3) := by decide +kernel
theorem dX9_lift_228 : decode cX9_lift 228 = .ok (.aload_n 0, 1) := by decide +kernel
theorem dX9_lift_229 : decode cX9_lift 229 = .ok (.invokevirtual 443, 3) := by decide +kernel
theorem dX9_lift_232 : decode cX9_lift 232 = .ok (.aload_n 0, 1) := by decide +kernel
theorem dX9_lift_233 : decode cX9_lift 233 = .ok (.getfield 405, 3) := by decide +kernel
theorem dX9_lift_236 : decode cX9_lift 236 = .ok (.ifCond .eq 10, 3) := by decide +kernel
theorem dX9_lift_239 : decode cX9_lift 239 = .ok (.aload_n 0, 1) := by decide +kernel
theorem dX9_lift_240 : decode cX9_lift 240 = .ok (.getfield 408, 3) := by decide +kernel
theorem dX9_lift_243 : decode cX9_lift 243 = .ok (.goto 4, 3) := by decide +kernel
theorem dX9_lift_247 : decode cX9_lift 247 = .ok (.ireturn, 1) := by decide +kernel
theorem dX9_manyIn_0 : decode cX9_manyIn 0 = .ok (.aload_n 0, 1) := by decide +kernel
theorem dX9_manyIn_1 : decode cX9_manyIn 1 = .ok (.getfield 20, 3) := by decide +kernel
theorem dX9_manyIn_4 : decode cX9_manyIn 4 = .ok (.aload_n 0, 1) := by decide +kernel
theorem dX9_manyIn_5 : decode cX9_manyIn 5 = .ok (.getfield 248, 3) := by decide +kernel
theorem dX9_manyIn_8 : decode cX9_manyIn 8 = .ok (.iaload, 1) := by decide +kernel
theorem dX9_manyIn_9 : decode cX9_manyIn 9 = .ok (.aload_n 0, 1) := by decide +kernel
theorem dX9_manyIn_10 : decode cX9_manyIn 10 = .ok (.getfield 345, 3) := by decide +kernel
theorem dX9_manyIn_13 : decode cX9_manyIn 13 = .ok (.invokestatic 365, 3) := by decide +kernel
theorem dX9_manyIn_16 : decode cX9_manyIn 16 = .ok (.isub, 1) := by decide +kernel
theorem dX9_manyIn_17 : decode cX9_manyIn 17 = .ok (.ireturn, 1) := by decide +kernel
theorem dX9_mays_0 : decode cX9_mays 0 = .ok (.aload_n 0, 1) := by decide +kernel
theorem dX9_mays_1 : decode cX9_mays 1 = .ok (.invokevirtual 462, 3) := by decide +kernel
theorem dX9_mays_4 : decode cX9_mays 4 = .ok (.ifCond .ne 6, 3) := by decide +kernel
theorem dX9_mays_10 : decode cX9_mays 10 = .ok (.aload_n 0, 1) := by decide +kernel
theorem dX9_mays_11 : decode cX9_mays 11 = .ok (.getfield 459, 3) := by decide +kernel
theorem dX9_mays_14 : decode cX9_mays 14 = .ok (.ifCond .ne 5, 3) := by decide +kernel
theorem dX9_mays_19 : decode cX9_mays 19 = .ok (.aload_n 0, 1) := by decide +kernel
theorem dX9_mays_20 : decode cX9_mays 20 = .ok (.getfield 104, 3) := by decide +kernel
theorem dX9_mays_23 : decode cX9_mays 23 = .ok (.iconst 0, 1) := by decide +kernel
theorem dX9_mays_24 : decode cX9_mays 24 = .ok (.iaload, 1) := by decide +kernel
theorem dX9_mays_25 : decode cX9_mays 25 = .ok (.ifCond .ne 7, 3) := by decide +kernel
theorem dX9_mays_28 : decode cX9_mays 28 = .ok (.iconst 1, 1) := by decide +kernel
theorem dX9_mays_29 : decode cX9_mays 29 = .ok (.goto 4, 3) := by decide +kernel
theorem dX9_mays_33 : decode cX9_mays 33 = .ok (.istore_n 1, 1) := by decide +kernel
theorem dX9_mays_34 : decode cX9_mays 34 = .ok (.aload_n 0, 1) := by decide +kernel
theorem dX9_mays_35 : decode cX9_mays 35 = .ok (.iload_n 1, 1) := by decide +kernel
theorem dX9_mays_36 : decode cX9_mays 36 = .ok (.iconst 0, 1) := by decide +kernel
theorem dX9_mays_37 : decode cX9_mays 37 = .ok (.iconst 0, 1) := by decide +kernel
theorem dX9_mays_38 : decode cX9_mays 38 = .ok (.invokevirtual 465, 3) := by decide +kernel
theorem dX9_mays_41 : decode cX9_mays 41 = .ok (.ifCond .ne 9, 3) := by decide +kernel
theorem dX9_mays_50 : decode cX9_mays 50 = .ok (.iconst 0, 1) := by decide +kernel
theorem dX9_mays_51 : decode cX9_mays 51 = .ok (.istore_n 2, 1) := by decide +kernel
theorem dX9_mays_52 : decode cX9_mays 52 = .ok (.aload_n 0, 1) := by decide +kernel
theorem dX9_mays_53 : decode cX9_mays 53 = .ok (.iload_n 1, 1) := by decide +kernel
theorem dX9_mays_54 : decode cX9_mays 54 = .ok (.iconst 1, 1) := by decide +kernel
theorem dX9_mays_55 : decode cX9_mays 55 = .ok (.isub, 1) := by decide +kernel
theorem dX9_mays_56 : decode cX9_mays 56 = .ok (.iload_n 2, 1) := by decide +kernel
theorem dX9_mays_57 : decode cX9_mays 57 = .ok (.iconst 1, 1) := by decide +kernel
theorem dX9_mays_58 : decode cX9_mays 58 = .ok (.iadd, 1) := by decide +kernel
theorem dX9_mays_59 : decode cX9_mays 59 = .ok (.aload_n 0, 1) := by decide +kernel
theorem dX9_mays_60 : decode cX9_mays 60 = .ok (.getfield 104, 3) := by decide +kernel
theorem dX9_mays_63 : decode cX9_mays 63 = .ok (.iload_n 2, 1) := by decide +kernel
theorem dX9_mays_64 : decode cX9_mays 64 = .ok (.iaload, 1) := by decide +kernel
theorem dX9_mays_65 : decode cX9_mays 65 = .ok (.invokevirtual 465, 3) := by decide +kernel
theorem dX9_mays_68 : decode cX9_mays 68 = .ok (.ifCond .ne 9, 3) := by decide +kernel
theorem dX9_mays_77 : decode cX9_mays 77 = .ok (.aload_n 0, 1) := by decide +kernel
theorem dX9_mays_78 : decode cX9_mays 78 = .ok (.iconst 1, 1) := by decide +kernel
theorem dX9_mays_79 : decode cX9_mays 79 = .ok (.putfield 358, 3) := by decide +kernel
theorem dX9_mays_82 : decode cX9_mays 82 = .ok (.iconst 0, 1) := by decide +kernel
theorem dX9_mays_83 : decode cX9_mays 83 = .ok (.istore_n 3, 1) := by decide +kernel
theorem dX9_mays_84 : decode cX9_mays 84 = .ok (.iload_n 3, 1) := by decide +kernel
theorem dX9_mays_85 : decode cX9_mays 85 = .ok (.aload_n 0, 1) := by decide +kernel
theorem dX9_mays_86 : decode cX9_mays 86 = .ok (.invokevirtual 381, 3) := by decide +kernel
theorem dX9_mays_89 : decode cX9_mays 89 = .ok (.if_icmp .ge 28, 3) := by decide +kernel
theorem dX9_mays_117 : decode cX9_mays 117 = .ok (.iload_n 1, 1) := by decide +kernel
theorem dX9_mays_118 : decode cX9_mays 118 = .ok (.ireturn, 1) := by decide +kernel
theorem dX9_meets_0 : decode cX9_meets 0 = .ok (.aload_n 0, 1) := by decide +kernel
theorem dX9_meets_1 : decode cX9_meets 1 = .ok (.getfield 411, 3) := by decide +kernel
theorem dX9_meets_4 : decode cX9_meets 4 = .ok (.iconst 5, 1) := by decide +kernel
theorem dX9_meets_5 : decode cX9_meets 5 = .ok (.if_icmp .ne 12, 3) := by decide +kernel
theorem dX9_meets_8 : decode cX9_meets 8 = .ok (.aload_n 0, 1) := by decide +kernel
theorem dX9_meets_9 : decode cX9_meets 9 = .ok (.invokevirtual 414, 3) := by decide +kernel
theorem dX9_meets_12 : decode cX9_meets 12 = .ok (.ifCond .ne 5, 3) := by decide +kernel
theorem dX9_meets_17 : decode cX9_meets 17 = .ok (.aload_n 0, 1) := by decide +kernel
theorem dX9_meets_18 : decode cX9_meets 18 = .ok (.getfield 411, 3) := by decide +kernel
theorem dX9_meets_21 : decode cX9_meets 21 = .ok (.iconst 5, 1) := by decide +kernel
theorem dX9_meets_22 : decode cX9_meets 22 = .ok (.if_icmp .ne 7, 3) := by decide +kernel
theorem dX9_meets_25 : decode cX9_meets 25 = .ok (.aload_n 0, 1) := by decide +kernel
theorem dX9_meets_26 : decode cX9_meets 26 = .ok (.invokevirtual 417, 3) := by decide +kernel
theorem dX9_meets_29 : decode cX9_meets 29 = .ok (.aload_n 0, 1) := by decide +kernel
theorem dX9_meets_30 : decode cX9_meets 30 = .ok (.getfield 411, 3) := by decide +kernel
theorem dX9_meets_33 : decode cX9_meets 33 = .ok (.bipush 6, 2) := by decide +kernel
theorem dX9_meets_35 : decode cX9_meets 35 = .ok (.if_icmp .ne 7, 3) := by decide +kernel
theorem dX9_meets_38 : decode cX9_meets 38 = .ok (.aload_n 0, 1) := by decide +kernel
theorem dX9_meets_39 : decode cX9_meets 39 = .ok (.invokevirtual 420, 3) := by decide +kernel
theorem dX9_meets_42 : decode cX9_meets 42 = .ok (.aload_n 0, 1) := by decide +kernel
theorem dX9_meets_43 : decode cX9_meets 43 = .ok (.getfield 411, 3) := by decide +kernel
theorem dX9_meets_46 : decode cX9_meets 46 = .ok (.iconst 2, 1) := by decide +kernel
theorem dX9_meets_47 : decode cX9_meets 47 = .ok (.if_icmp .ne 10, 3) := by decide +kernel
theorem dX9_meets_50 : decode cX9_meets 50 = .ok (.aload_n 0, 1) := by decide +kernel
theorem dX9_meets_51 : decode cX9_meets 51 = .ok (.invokevirtual 387, 3) := by decide +kernel
theorem dX9_meets_54 : decode cX9_meets 54 = .ok (.goto 20, 3) := by decide +kernel
theorem dX9_meets_57 : decode cX9_meets 57 = .ok (.aload_n 0, 1) := by decide +kernel
theorem dX9_meets_58 : decode cX9_meets 58 = .ok (.getfield 411, 3) := by decide +kernel
theorem dX9_meets_61 : decode cX9_meets 61 = .ok (.iconst 3, 1) := by decide +kernel
theorem dX9_meets_62 : decode cX9_meets 62 = .ok (.if_icmp .ne 11, 3) := by decide +kernel
theorem dX9_meets_65 : decode cX9_meets 65 = .ok (.aload_n 0, 1) := by decide +kernel
theorem dX9_meets_66 : decode cX9_meets 66 = .ok (.invokevirtual 390, 3) := by decide +kernel
theorem dX9_meets_69 : decode cX9_meets 69 = .ok (.ineg, 1) := by decide +kernel
theorem dX9_meets_70 : decode cX9_meets 70 = .ok (.goto 4, 3) := by decide +kernel
theorem dX9_meets_73 : decode cX9_meets 73 = .ok (.iconst 0, 1) := by decide +kernel
theorem dX9_meets_74 : decode cX9_meets 74 = .ok (.istore_n 1, 1) := by decide +kernel
theorem dX9_meets_75 : decode cX9_meets 75 = .ok (.aload_n 0, 1) := by decide +kernel
theorem dX9_meets_76 : decode cX9_meets 76 = .ok (.getfield 411, 3) := by decide +kernel
theorem dX9_meets_79 : decode cX9_meets 79 = .ok (.iconst 4, 1) := by decide +kernel
theorem dX9_meets_80 : decode cX9_meets 80 = .ok (.if_icmp .ne 22, 3) := by decide +kernel
theorem dX9_meets_83 : decode cX9_meets 83 = .ok (.aload_n 0, 1) := by decide +kernel
theorem dX9_meets_84 : decode cX9_meets 84 = .ok (.getfield 423, 3) := by decide +kernel
theorem dX9_meets_87 : decode cX9_meets 87 = .ok (.aload_n 0, 1) := by decide +kernel
theorem dX9_meets_88 : decode cX9_meets 88 = .ok (.getfield 426, 3) := by decide +kernel
theorem dX9_meets_91 : decode cX9_meets 91 = .ok (.if_icmp .ne 7, 3) := by decide +kernel
theorem dX9_meets_94 : decode cX9_meets 94 = .ok (.iconst 1, 1) := by decide +kernel
theorem dX9_meets_95 : decode cX9_meets 95 = .ok (.goto 43, 3) := by decide +kernel
theorem dX9_meets_102 : decode cX9_meets 102 = .ok (.aload_n 0, 1) := by decide +kernel
theorem dX9_meets_103 : decode cX9_meets 103 = .ok (.getfield 405, 3) := by decide +kernel
theorem dX9_meets_106 : decode cX9_meets 106 = .ok (.ifCond .eq 27, 3) := by decide +kernel
theorem dX9_meets_133 : decode cX9_meets 133 = .ok (.iconst 1, 1) := by decide +kernel
theorem dX9_meets_134 : decode cX9_meets 134 = .ok (.goto 4, 3) := by decide +kernel
theorem dX9_meets_138 : decode cX9_meets 138 = .ok (.istore_n 2, 1) := by decide +kernel
theorem dX9_meets_139 : decode cX9_meets 139 = .ok (.iload_n 2, 1) := by decide +kernel
theorem dX9_meets_140 : decode cX9_meets 140 = .ok (.ifCond .eq 8, 3) := by decide +kernel
theorem dX9_meets_143 : decode cX9_meets 143 = .ok (.aload_n 0, 1) := by decide +kernel
theorem dX9_meets_144 : decode cX9_meets 144 = .ok (.iload_n 1, 1) := by decide +kernel
theorem dX9_meets_145 : decode cX9_meets 145 = .ok (.invokevirtual 429, 3) := by decide +kernel
theorem dX9_meets_148 : decode cX9_meets 148 = .ok (.aload_n 0, 1) := by decide +kernel
theorem dX9_meets_149 : decode cX9_meets 149 = .ok (.dup, 1) := by decide +kernel
theorem dX9_meets_150 : decode cX9_meets 150 = .ok (.getfield 423, 3) := by decide +kernel
theorem dX9_meets_153 : decode cX9_meets 153 = .ok (.iconst 1, 1) := by decide +kernel
theorem dX9_meets_154 : decode cX9_meets 154 = .ok (.iadd, 1) := by decide +kernel
theorem dX9_meets_155 : decode cX9_meets 155 = .ok (.putfield 423, 3) := by decide +kernel
theorem dX9_meets_158 : decode cX9_meets 158 = .ok (.aload_n 0, 1) := by decide +kernel
theorem dX9_meets_159 : decode cX9_meets 159 = .ok (.getfield 411, 3) := by decide +kernel
theorem dX9_meets_162 : decode cX9_meets 162 = .ok (.iconst 1, 1) := by decide +kernel
theorem dX9_meets_163 : decode cX9_meets 163 = .ok (.if_icmp .eq 19, 3) := by decide +kernel
theorem dX9_meets_166 : decode cX9_meets 166 = .ok (.aload_n 0, 1) := by decide +kernel
