theorem dX12_init_0 : decode cX12_init 0 = .ok (.aload_n 0, 1) := by decide +kernel
theorem dX12_init_1 : decode cX12_init 1 = .ok (.invokespecial 1, 3) := by decide +kernel
theorem dX12_init_4 : decode cX12_init 4 = .ok (.aload_n 0, 1) := by decide +kernel
theorem dX12_init_5 : decode cX12_init 5 = .ok (.bipush 10, 2) := by decide +kernel
theorem dX12_init_7 : decode cX12_init 7 = .ok (.newarray .int, 2) := by decide +kernel
theorem dX12_init_9 : decode cX12_init 9 = .ok (.putfield 7, 3) := by decide +kernel
theorem dX12_init_12 : decode cX12_init 12 = .ok (.aload_n 0, 1) := by decide +kernel
theorem dX12_init_13 : decode cX12_init 13 = .ok (.bipush 10, 2) := by decide +kernel
theorem dX12_init_15 : decode cX12_init 15 = .ok (.newarray .int, 2) := by decide +kernel
theorem dX12_init_17 : decode cX12_init 17 = .ok (.putfield 13, 3) := by decide +kernel
theorem dX12_init_20 : decode cX12_init 20 = .ok (.aload_n 0, 1) := by decide +kernel
theorem dX12_init_21 : decode cX12_init 21 = .ok (.bipush 10, 2) := by decide +kernel
theorem dX12_init_23 : decode cX12_init 23 = .ok (.newarray .int, 2) := by decide +kernel
theorem dX12_init_25 : decode cX12_init 25 = .ok (.putfield 16, 3) := by decide +kernel
theorem dX12_init_28 : decode cX12_init 28 = .ok (.aload_n 0, 1) := by decide +kernel
theorem dX12_init_29 : decode cX12_init 29 = .ok (.bipush 10, 2) := by decide +kernel
theorem dX12_init_31 : decode cX12_init 31 = .ok (.newarray .int, 2) := by decide +kernel
theorem dX12_init_33 : decode cX12_init 33 = .ok (.putfield 19, 3) := by decide +kernel
theorem dX12_init_36 : decode cX12_init 36 = .ok (.aload_n 0, 1) := by decide +kernel
theorem dX12_init_37 : decode cX12_init 37 = .ok (.bipush 8, 2) := by decide +kernel
theorem dX12_init_39 : decode cX12_init 39 = .ok (.newarray .int, 2) := by decide +kernel
theorem dX12_init_41 : decode cX12_init 41 = .ok (.putfield 22, 3) := by decide +kernel
theorem dX12_init_44 : decode cX12_init 44 = .ok (.aload_n 0, 1) := by decide +kernel
theorem dX12_init_45 : decode cX12_init 45 = .ok (.bipush 8, 2) := by decide +kernel
theorem dX12_init_47 : decode cX12_init 47 = .ok (.newarray .int, 2) := by decide +kernel
theorem dX12_init_49 : decode cX12_init 49 = .ok (.putfield 25, 3) := by decide +kernel
theorem dX12_init_52 : decode cX12_init 52 = .ok (.aload_n 0, 1) := by decide +kernel
theorem dX12_init_53 : decode cX12_init 53 = .ok (.bipush 40, 2) := by decide +kernel
theorem dX12_init_55 : decode cX12_init 55 = .ok (.newarray .int, 2) := by decide +kernel
theorem dX12_init_57 : decode cX12_init 57 = .ok (.putfield 28, 3) := by decide +kernel
theorem dX12_init_60 : decode cX12_init 60 = .ok (.aload_n 0, 1) := by decide +kernel
theorem dX12_init_61 : decode cX12_init 61 = .ok (.bipush 40, 2) := by decide +kernel
theorem dX12_init_63 : decode cX12_init 63 = .ok (.newarray .int, 2) := by decide +kernel
theorem dX12_init_65 : decode cX12_init 65 = .ok (.putfield 31, 3) := by decide +kernel
theorem dX12_init_68 : decode cX12_init 68 = .ok (.aload_n 0, 1) := by decide +kernel
theorem dX12_init_69 : decode cX12_init 69 = .ok (.bipush 40, 2) := by decide +kernel
theorem dX12_init_71 : decode cX12_init 71 = .ok (.newarray .int, 2) := by decide +kernel
theorem dX12_init_73 : decode cX12_init 73 = .ok (.putfield 34, 3) := by decide +kernel
theorem dX12_init_76 : decode cX12_init 76 = .ok (.aload_n 0, 1) := by decide +kernel
theorem dX12_init_77 : decode cX12_init 77 = .ok (.bipush 40, 2) := by decide +kernel
theorem dX12_init_79 : decode cX12_init 79 = .ok (.newarray .int, 2) := by decide +kernel
theorem dX12_init_81 : decode cX12_init 81 = .ok (.putfield 37, 3) := by decide +kernel
theorem dX12_init_84 : decode cX12_init 84 = .ok (.aload_n 0, 1) := by decide +kernel
theorem dX12_init_85 : decode cX12_init 85 = .ok (.bipush 40, 2) := by decide +kernel
theorem dX12_init_87 : decode cX12_init 87 = .ok (.newarray .int, 2) := by decide +kernel
theorem dX12_init_89 : decode cX12_init 89 = .ok (.putfield 40, 3) := by decide +kernel
theorem dX12_init_92 : decode cX12_init 92 = .ok (.aload_n 0, 1) := by decide +kernel
theorem dX12_init_93 : decode cX12_init 93 = .ok (.bipush 40, 2) := by decide +kernel
theorem dX12_init_95 : decode cX12_init 95 = .ok (.newarray .int, 2) := by decide +kernel
theorem dX12_init_97 : decode cX12_init 97 = .ok (.putfield 43, 3) := by decide +kernel
theorem dX12_init_100 : decode cX12_init 100 = .ok (.aload_n 0, 1) := by decide +kernel
theorem dX12_init_101 : decode cX12_init 101 = .ok (.bipush 40, 2) := by decide +kernel
theorem dX12_init_103 : decode cX12_init 103 = .ok (.newarray .int, 2) := by decide +kernel
theorem dX12_init_105 : decode cX12_init 105 = .ok (.putfield 46, 3) := by decide +kernel
theorem dX12_init_108 : decode cX12_init 108 = .ok (.aload_n 0, 1) := by decide +kernel
theorem dX12_init_109 : decode cX12_init 109 = .ok (.bipush 40, 2) := by decide +kernel
theorem dX12_init_111 : decode cX12_init 111 = .ok (.newarray .int, 2) := by decide +kernel
theorem dX12_init_113 : decode cX12_init 113 = .ok (.putfield 49, 3) := by decide +kernel
theorem dX12_init_116 : decode cX12_init 116 = .ok (.aload_n 0, 1) := by decide +kernel
theorem dX12_init_117 : decode cX12_init 117 = .ok (.bipush 40, 2) := by decide +kernel
theorem dX12_init_119 : decode cX12_init 119 = .ok (.newarray .int, 2) := by decide +kernel
theorem dX12_init_121 : decode cX12_init 121 = .ok (.putfield 52, 3) := by decide +kernel
theorem dX12_init_124 : decode cX12_init 124 = .ok (.aload_n 0, 1) := by decide +kernel
theorem dX12_init_125 : decode cX12_init 125 = .ok (.bipush 40, 2) := by decide +kernel
theorem dX12_init_127 : decode cX12_init 127 = .ok (.newarray .int, 2) := by decide +kernel
theorem dX12_init_129 : decode cX12_init 129 = .ok (.putfield 55, 3) := by decide +kernel
theorem dX12_init_132 : decode cX12_init 132 = .ok (.aload_n 0, 1) := by decide +kernel
theorem dX12_init_133 : decode cX12_init 133 = .ok (.sipush 200, 3) := by decide +kernel
theorem dX12_init_136 : decode cX12_init 136 = .ok (.newarray .byte, 2) := by decide +kernel
theorem dX12_init_138 : decode cX12_init 138 = .ok (.putfield 58, 3) := by decide +kernel
theorem dX12_init_141 : decode cX12_init 141 = .ok (.aload_n 0, 1) := by decide +kernel
theorem dX12_init_142 : decode cX12_init 142 = .ok (.sipush 180, 3) := by decide +kernel
theorem dX12_init_145 : decode cX12_init 145 = .ok (.newarray .int, 2) := by decide +kernel
theorem dX12_init_147 : decode cX12_init 147 = .ok (.putfield 62, 3) := by decide +kernel
theorem dX12_init_150 : decode cX12_init 150 = .ok (.aload_n 0, 1) := by decide +kernel
theorem dX12_init_151 : decode cX12_init 151 = .ok (.sipush 180, 3) := by decide +kernel
theorem dX12_init_154 : decode cX12_init 154 = .ok (.newarray .int, 2) := by decide +kernel
theorem dX12_init_156 : decode cX12_init 156 = .ok (.putfield 65, 3) := by decide +kernel
theorem dX12_init_159 : decode cX12_init 159 = .ok (.aload_n 0, 1) := by decide +kernel
theorem dX12_init_160 : decode cX12_init 160 = .ok (.bipush 12, 2) := by decide +kernel
theorem dX12_init_162 : decode cX12_init 162 = .ok (.newarray .int, 2) := by decide +kernel
theorem dX12_init_164 : decode cX12_init 164 = .ok (.putfield 68, 3) := by decide +kernel
theorem dX12_init_167 : decode cX12_init 167 = .ok (.aload_n 0, 1) := by decide +kernel
theorem dX12_init_168 : decode cX12_init 168 = .ok (.bipush 12, 2) := by decide +kernel
theorem dX12_init_170 : decode cX12_init 170 = .ok (.newarray .int, 2) := by decide +kernel
theorem dX12_init_172 : decode cX12_init 172 = .ok (.putfield 71, 3) := by decide +kernel
theorem dX12_init_175 : decode cX12_init 175 = .ok (.aload_n 0, 1) := by decide +kernel
theorem dX12_init_176 : decode cX12_init 176 = .ok (.bipush 12, 2) := by decide +kernel
theorem dX12_init_178 : decode cX12_init 178 = .ok (.newarray .int, 2) := by decide +kernel
theorem dX12_init_180 : decode cX12_init 180 = .ok (.putfield 74, 3) := by decide +kernel
theorem dX12_init_183 : decode cX12_init 183 = .ok (.aload_n 0, 1) := by decide +kernel
theorem dX12_init_184 : decode cX12_init 184 = .ok (.bipush 12, 2) := by decide +kernel
theorem dX12_init_186 : decode cX12_init 186 = .ok (.newarray .int, 2) := by decide +kernel
theorem dX12_init_188 : decode cX12_init 188 = .ok (.putfield 77, 3) := by decide +kernel
theorem dX12_init_191 : decode cX12_init 191 = .ok (.aload_n 0, 1) := by decide +kernel
theorem dX12_init_192 : decode cX12_init 192 = .ok (.sipush 2160, 3) := by decide +kernel
theorem dX12_init_195 : decode cX12_init 195 = .ok (.newarray .int, 2) := by decide +kernel
theorem dX12_init_197 : decode cX12_init 197 = .ok (.putfield 80, 3) := by decide +kernel
theorem dX12_init_200 : decode cX12_init 200 = .ok (.aload_n 0, 1) := by decide +kernel
theorem dX12_init_201 : decode cX12_init 201 = .ok (.bipush 12, 2) := by decide +kernel
theorem dX12_init_203 : decode cX12_init 203 = .ok (.newarray .int, 2) := by decide +kernel
theorem dX12_init_205 : decode cX12_init 205 = .ok (.putfield 83, 3) := by decide +kernel
theorem dX12_init_208 : decode cX12_init 208 = .ok (.aload_n 0, 1) := by decide +kernel
theorem dX12_init_209 : decode cX12_init 209 = .ok (.sipush 144, 3) := by decide +kernel
theorem dX12_init_212 : decode cX12_init 212 = .ok (.newarray .int, 2) := by decide +kernel
theorem dX12_init_214 : decode cX12_init 214 = .ok (.putfield 86, 3) := by decide +kernel
theorem dX12_init_217 : decode cX12_init 217 = .ok (.aload_n 0, 1) := by decide +kernel
theorem dX12_init_218 : decode cX12_init 218 = .ok (.sipush 144, 3) := by decide +kernel
theorem dX12_init_221 : decode cX12_init 221 = .ok (.newarray .int, 2) := by decide +kernel
theorem dX12_init_223 : decode cX12_init 223 = .ok (.putfield 89, 3) := by decide +kernel
theorem dX12_init_226 : decode cX12_init 226 = .ok (.aload_n 0, 1) := by decide +kernel
theorem dX12_init_227 : decode cX12_init 227 = .ok (.sipush 144, 3) := by decide +kernel
theorem dX12_init_230 : decode cX12_init 230 = .ok (.newarray .int, 2) := by decide +kernel
theorem dX12_init_232 : decode cX12_init 232 = .ok (.putfield 92, 3) := by decide +kernel
theorem dX12_init_235 : decode cX12_init 235 = .ok (.aload_n 0, 1) := by decide +kernel
theorem dX12_init_236 : decode cX12_init 236 = .ok (.sipush 144, 3) := by decide +kernel
theorem dX12_init_239 : decode cX12_init 239 = .ok (.newarray .int, 2) := by decide +kernel
theorem dX12_init_241 : decode cX12_init 241 = .ok (.putfield 95, 3) := by decide +kernel
theorem dX12_init_244 : decode cX12_init 244 = .ok (.aload_n 0, 1) := by decide +kernel
theorem dX12_init_245 : decode cX12_init 245 = .ok (.sipush 180, 3) := by decide +kernel
theorem dX12_init_248 : decode cX12_init 248 = .ok (.newarray .int, 2) := by decide +kernel
theorem dX12_init_250 : decode cX12_init 250 = .ok (.putfield 98, 3) := by decide +kernel
theorem dX12_init_253 : decode cX12_init 253 = .ok (.aload_n 0, 1) := by decide +kernel
theorem dX12_init_254 : decode cX12_init 254 = .ok (.bipush 12, 2) := by decide +kernel
theorem dX12_init_256 : decode cX12_init 256 = .ok (.newarray .int, 2) := by decide +kernel
theorem dX12_init_258 : decode cX12_init 258 = .ok (.putfield 101, 3) := by decide +kernel
theorem dX12_init_261 : decode cX12_init 261 = .ok (.aload_n 0, 1) := by decide +kernel
theorem dX12_init_262 : decode cX12_init 262 = .ok (.bipush 20, 2) := by decide +kernel
theorem dX12_init_264 : decode cX12_init 264 = .ok (.newarray .int, 2) := by decide +kernel
theorem dX12_init_266 : decode cX12_init 266 = .ok (.putfield 104, 3) := by decide +kernel
theorem dX12_init_269 : decode cX12_init 269 = .ok (.aload_n 0, 1) := by decide +kernel
theorem dX12_init_270 : decode cX12_init 270 = .ok (.bipush 60, 2) := by decide +kernel
theorem dX12_init_272 : decode cX12_init 272 = .ok (.newarray .int, 2) := by decide +kernel
theorem dX12_init_274 : decode cX12_init 274 = .ok (.putfield 107, 3) := by decide +kernel
theorem dX12_init_277 : decode cX12_init 277 = .ok (.aload_n 0, 1) := by decide +kernel
theorem dX12_init_278 : decode cX12_init 278 = .ok (.bipush 60, 2) := by decide +kernel
theorem dX12_init_280 : decode cX12_init 280 = .ok (.newarray .int, 2) := by decide +kernel
theorem dX12_init_282 : decode cX12_init 282 = .ok (.putfield 110, 3) := by decide +kernel
theorem dX12_init_285 : decode cX12_init 285 = .ok (.aload_n 0, 1) := by decide +kernel
theorem dX12_init_286 : decode cX12_init 286 = .ok (.bipush 8, 2) := by decide +kernel
theorem dX12_init_288 : decode cX12_init 288 = .ok (.newarray .int, 2) := by decide +kernel
theorem dX12_init_290 : decode cX12_init 290 = .ok (.putfield 113, 3) := by decide +kernel
theorem dX12_init_293 : decode cX12_init 293 = .ok (.aload_n 0, 1) := by decide +kernel
theorem dX12_init_294 : decode cX12_init 294 = .ok (.bipush 8, 2) := by decide +kernel
theorem dX12_init_296 : decode cX12_init 296 = .ok (.newarray .int, 2) := by decide +kernel
theorem dX12_init_298 : decode cX12_init 298 = .ok (.putfield 116, 3) := by decide +kernel
theorem dX12_init_301 : decode cX12_init 301 = .ok (.aload_n 0, 1) := by decide +kernel
theorem dX12_init_302 : decode cX12_init 302 = .ok (.bipush 8, 2) := by decide +kernel
theorem dX12_init_304 : decode cX12_init 304 = .ok (.newarray .int, 2) := by decide +kernel
theorem dX12_init_306 : decode cX12_init 306 = .ok (.putfield 119, 3) := by decide +kernel
theorem dX12_init_309 : decode cX12_init 309 = .ok (.aload_n 0, 1) := by decide +kernel
theorem dX12_init_310 : decode cX12_init 310 = .ok (.bipush 8, 2) := by decide +kernel
theorem dX12_init_312 : decode cX12_init 312 = .ok (.newarray .int, 2) := by decide +kernel
theorem dX12_init_314 : decode cX12_init 314 = .ok (.putfield 122, 3) := by decide +kernel
theorem dX12_init_317 : decode cX12_init 317 = .ok (.aload_n 0, 1) := by decide +kernel
theorem dX12_init_318 : decode cX12_init 318 = .ok (.bipush 11, 2) := by decide +kernel
theorem dX12_init_320 : decode cX12_init 320 = .ok (.newarray .int, 2) := by decide +kernel
theorem dX12_init_322 : decode cX12_init 322 = .ok (.putfield 125, 3) := by decide +kernel
theorem dX12_init_325 : decode cX12_init 325 = .ok (.aload_n 0, 1) := by decide +kernel
theorem dX12_init_326 : decode cX12_init 326 = .ok (.bipush 10, 2) := by decide +kernel
theorem dX12_init_328 : decode cX12_init 328 = .ok (.newarray .int, 2) := by decide +kernel
theorem dX12_init_330 : decode cX12_init 330 = .ok (.putfield 128, 3) := by decide +kernel
theorem dX12_init_333 : decode cX12_init 333 = .ok (.aload_n 0, 1) := by decide +kernel
theorem dX12_init_334 : decode cX12_init 334 = .ok (.bipush 10, 2) := by decide +kernel
theorem dX12_init_336 : decode cX12_init 336 = .ok (.newarray .int, 2) := by decide +kernel
theorem dX12_init_338 : decode cX12_init 338 = .ok (.putfield 131, 3) := by decide +kernel
theorem dX12_init_341 : decode cX12_init 341 = .ok (.aload_n 0, 1) := by decide +kernel
theorem dX12_init_342 : decode cX12_init 342 = .ok (.bipush 40, 2) := by decide +kernel
theorem dX12_init_344 : decode cX12_init 344 = .ok (.newarray .int, 2) := by decide +kernel
theorem dX12_init_346 : decode cX12_init 346 = .ok (.putfield 134, 3) := by decide +kernel
theorem dX12_init_349 : decode cX12_init 349 = .ok (.aload_n 0, 1) := by decide +kernel
theorem dX12_init_350 : decode cX12_init 350 = .ok (.bipush 40, 2) := by decide +kernel
theorem dX12_init_352 : decode cX12_init 352 = .ok (.newarray .int, 2) := by decide +kernel
theorem dX12_init_354 : decode cX12_init 354 = .ok (.putfield 137, 3) := by decide +kernel
theorem dX12_init_357 : decode cX12_init 357 = .ok (.aload_n 0, 1) := by decide +kernel
theorem dX12_init_358 : decode cX12_init 358 = .ok (.bipush 40, 2) := by decide +kernel
theorem dX12_init_360 : decode cX12_init 360 = .ok (.newarray .int, 2) := by decide +kernel
theorem dX12_init_362 : decode cX12_init 362 = .ok (.putfield 140, 3) := by decide +kernel
theorem dX12_init_365 : decode cX12_init 365 = .ok (.aload_n 0, 1) := by decide +kernel
theorem dX12_init_366 : decode cX12_init 366 = .ok (.bipush 40, 2) := by decide +kernel
theorem dX12_init_368 : decode cX12_init 368 = .ok (.newarray .int, 2) := by decide +kernel
theorem dX12_init_370 : decode cX12_init 370 = .ok (.putfield 143, 3) := by decide +kernel
theorem dX12_init_373 : decode cX12_init 373 = .ok (.aload_n 0, 1) := by decide +kernel
theorem dX12_init_374 : decode cX12_init 374 = .ok (.bipush 40, 2) := by decide +kernel
theorem dX12_init_376 : decode cX12_init 376 = .ok (.newarray .int, 2) := by decide +kernel
theorem dX12_init_378 : decode cX12_init 378 = .ok (.putfield 146, 3) := by decide +kernel
theorem dX12_init_381 : decode cX12_init 381 = .ok (.aload_n 0, 1) := by decide +kernel
theorem dX12_init_382 : decode cX12_init 382 = .ok (.bipush 40, 2) := by decide +kernel
theorem dX12_init_384 : decode cX12_init 384 = .ok (.newarray .int, 2) := by decide +kernel
theorem dX12_init_386 : decode cX12_init 386 = .ok (.putfield 149, 3) := by decide +kernel
theorem dX12_init_389 : decode cX12_init 389 = .ok (.aload_n 0, 1) := by decide +kernel
theorem dX12_init_390 : decode cX12_init 390 = .ok (.bipush 10, 2) := by decide +kernel
theorem dX12_init_392 : decode cX12_init 392 = .ok (.newarray .int, 2) := by decide +kernel
theorem dX12_init_394 : decode cX12_init 394 = .ok (.putfield 152, 3) := by decide +kernel
theorem dX12_init_397 : decode cX12_init 397 = .ok (.aload_n 0, 1) := by decide +kernel
theorem dX12_init_398 : decode cX12_init 398 = .ok (.bipush 10, 2) := by decide +kernel
theorem dX12_init_400 : decode cX12_init 400 = .ok (.newarray .int, 2) := by decide +kernel
theorem dX12_init_402 : decode cX12_init 402 = .ok (.putfield 155, 3) := by decide +kernel
theorem dX12_init_405 : decode cX12_init 405 = .ok (.aload_n 0, 1) := by decide +kernel
theorem dX12_init_406 : decode cX12_init 406 = .ok (.iconst 1, 1) := by decide +kernel
theorem dX12_init_407 : decode cX12_init 407 = .ok (.putfield 158, 3) := by decide +kernel
theorem dX12_init_410 : decode cX12_init 410 = .ok (.aload_n 0, 1) := by decide +kernel
theorem dX12_init_411 : decode cX12_init 411 = .ok (.iconst 1, 1) := by decide +kernel
theorem dX12_init_412 : decode cX12_init 412 = .ok (.putfield 162, 3) := by decide +kernel
theorem dX12_init_415 : decode cX12_init 415 = .ok (.return_, 1) := by decide +kernel
theorem dX12_in_0 : decode cX12_in 0 = .ok (.iload_n 0, 1) := by decide +kernel
theorem dX12_in_1 : decode cX12_in 1 = .ok (.iload_n 1, 1) := by decide +kernel
theorem dX12_in_2 : decode cX12_in 2 = .ok (.if_icmp .lt 12, 3) := by decide +kernel
theorem dX12_in_5 : decode cX12_in 5 = .ok (.iload_n 0, 1) := by decide +kernel
theorem dX12_in_6 : decode cX12_in 6 = .ok (.iload_n 2, 1) := by decide +kernel
theorem dX12_in_7 : decode cX12_in 7 = .ok (.if_icmp .gt 7, 3) := by decide +kernel
theorem dX12_in_10 : decode cX12_in 10 = .ok (.iconst 1, 1) := by decide +kernel
theorem dX12_in_11 : decode cX12_in 11 = .ok (.goto 4, 3) := by decide +kernel
theorem dX12_in_14 : decode cX12_in 14 = .ok (.iconst 0, 1) := by decide +kernel
theorem dX12_in_15 : decode cX12_in 15 = .ok (.ireturn, 1) := by decide +kernel
theorem dX12_bits_0 : decode cX12_bits 0 = .ok (.iconst 0, 1) := by decide +kernel
theorem dX12_bits_1 : decode cX12_bits 1 = .ok (.istore_n 1, 1) := by decide +kernel
theorem dX12_bits_2 : decode cX12_bits 2 = .ok (.iconst 0, 1) := by decide +kernel
theorem dX12_bits_3 : decode cX12_bits 3 = .ok (.istore_n 2, 1) := by decide +kernel
theorem dX12_bits_4 : decode cX12_bits 4 = .ok (.iload_n 2, 1) := by decide +kernel
theorem dX12_bits_5 : decode cX12_bits 5 = .ok (.bipush 10, 2) := by decide +kernel
theorem dX12_bits_7 : decode cX12_bits 7 = .ok (.if_icmp .ge 17, 3) := by decide +kernel
theorem dX12_bits_10 : decode cX12_bits 10 = .ok (.iload_n 1, 1) := by decide +kernel
theorem dX12_bits_11 : decode cX12_bits 11 = .ok (.iload_n 0, 1) := by decide +kernel
theorem dX12_bits_12 : decode cX12_bits 12 = .ok (.iload_n 2, 1) := by decide +kernel
theorem dX12_bits_13 : decode cX12_bits 13 = .ok (.ishr, 1) := by decide +kernel
theorem dX12_bits_14 : decode cX12_bits 14 = .ok (.iconst 1, 1) := by decide +kernel
theorem dX12_bits_15 : decode cX12_bits 15 = .ok (.iand, 1) := by decide +kernel
theorem dX12_bits_16 : decode cX12_bits 16 = .ok (.iadd, 1) := by decide +kernel
theorem dX12_bits_17 : decode cX12_bits 17 = .ok (.istore_n 1, 1) := by decide +kernel
theorem dX12_bits_18 : decode cX12_bits 18 = .ok (.iinc 2 1, 3) := by decide +kernel
theorem dX12_bits_21 : decode cX12_bits 21 = .ok (.goto (-17), 3) := by decide +kernel
theorem dX12_bits_24 : decode cX12_bits 24 = .ok (.iload_n 1, 1) := by decide +kernel
theorem dX12_bits_25 : decode cX12_bits 25 = .ok (.ireturn, 1) := by decide +kernel
theorem dX12_isClerk_0 : decode cX12_isClerk 0 = .ok (.iload_n 1, 1) := by decide +kernel
theorem dX12_isClerk_1 : decode cX12_isClerk 1 = .ok (.ifCond .lt 15, 3) := by decide +kernel
theorem dX12_isClerk_4 : decode cX12_isClerk 4 = .ok (.iload_n 1, 1) := by decide +kernel
theorem dX12_isClerk_5 : decode cX12_isClerk 5 = .ok (.aload_n 0, 1) := by decide +kernel
theorem dX12_isClerk_6 : decode cX12_isClerk 6 = .ok (.getfield 165, 3) := by decide +kernel
theorem dX12_isClerk_9 : decode cX12_isClerk 9 = .ok (.if_icmp .ge 7, 3) := by decide +kernel
theorem dX12_isClerk_12 : decode cX12_isClerk 12 = .ok (.iconst 1, 1) := by decide +kernel
theorem dX12_isClerk_13 : decode cX12_isClerk 13 = .ok (.goto 4, 3) := by decide +kernel
theorem dX12_isClerk_16 : decode cX12_isClerk 16 = .ok (.iconst 0, 1) := by decide +kernel
theorem dX12_isClerk_17 : decode cX12_isClerk 17 = .ok (.ireturn, 1) := by decide +kernel
theorem dX12_isStep_0 : decode cX12_isStep 0 = .ok (.iload_n 1, 1) := by decide +kernel
theorem dX12_isStep_1 : decode cX12_isStep 1 = .ok (.ifCond .lt 15, 3) := by decide +kernel
theorem dX12_isStep_4 : decode cX12_isStep 4 = .ok (.iload_n 1, 1) := by decide +kernel
theorem dX12_isStep_5 : decode cX12_isStep 5 = .ok (.aload_n 0, 1) := by decide +kernel
theorem dX12_isStep_6 : decode cX12_isStep 6 = .ok (.getfield 168, 3) := by decide +kernel
theorem dX12_isStep_9 : decode cX12_isStep 9 = .ok (.if_icmp .ge 7, 3) := by decide +kernel
theorem dX12_isStep_12 : decode cX12_isStep 12 = .ok (.iconst 1, 1) := by decide +kernel
theorem dX12_isStep_13 : decode cX12_isStep 13 = .ok (.goto 4, 3) := by decide +kernel
theorem dX12_isStep_16 : decode cX12_isStep 16 = .ok (.iconst 0, 1) := by decide +kernel
theorem dX12_isStep_17 : decode cX12_isStep 17 = .ok (.ireturn, 1) := by decide +kernel
theorem dX12_isFile_0 : decode cX12_isFile 0 = .ok (.iload_n 1, 1) := by decide +kernel
theorem dX12_isFile_1 : decode cX12_isFile 1 = .ok (.ifCond .lt 15, 3) := by decide +kernel
theorem dX12_isFile_4 : decode cX12_isFile 4 = .ok (.iload_n 1, 1) := by decide +kernel
theorem dX12_isFile_5 : decode cX12_isFile 5 = .ok (.aload_n 0, 1) := by decide +kernel
theorem dX12_isFile_6 : decode cX12_isFile 6 = .ok (.getfield 171, 3) := by decide +kernel
theorem dX12_isFile_9 : decode cX12_isFile 9 = .ok (.if_icmp .ge 7, 3) := by decide +kernel
theorem dX12_isFile_12 : decode cX12_isFile 12 = .ok (.iconst 1, 1) := by decide +kernel
theorem dX12_isFile_13 : decode cX12_isFile 13 = .ok (.goto 4, 3) := by decide +kernel
theorem dX12_isFile_16 : decode cX12_isFile 16 = .ok (.iconst 0, 1) := by decide +kernel
theorem dX12_isFile_17 : decode cX12_isFile 17 = .ok (.ireturn, 1) := by decide +kernel
theorem dX12_isSet_0 : decode cX12_isSet 0 = .ok (.iload_n 1, 1) := by decide +kernel
theorem dX12_isSet_1 : decode cX12_isSet 1 = .ok (.ifCond .lt 17, 3) := by decide +kernel
theorem dX12_isSet_4 : decode cX12_isSet 4 = .ok (.iload_n 1, 1) := by decide +kernel
theorem dX12_isSet_5 : decode cX12_isSet 5 = .ok (.iconst 1, 1) := by decide +kernel
theorem dX12_isSet_6 : decode cX12_isSet 6 = .ok (.aload_n 0, 1) := by decide +kernel
theorem dX12_isSet_7 : decode cX12_isSet 7 = .ok (.getfield 165, 3) := by decide +kernel
theorem dX12_isSet_10 : decode cX12_isSet 10 = .ok (.ishl, 1) := by decide +kernel
theorem dX12_isSet_11 : decode cX12_isSet 11 = .ok (.if_icmp .ge 7, 3) := by decide +kernel
theorem dX12_isSet_14 : decode cX12_isSet 14 = .ok (.iconst 1, 1) := by decide +kernel
theorem dX12_isSet_15 : decode cX12_isSet 15 = .ok (.goto 4, 3) := by decide +kernel
theorem dX12_isSet_18 : decode cX12_isSet 18 = .ok (.iconst 0, 1) := by decide +kernel
theorem dX12_isSet_19 : decode cX12_isSet 19 = .ok (.ireturn, 1) := by decide +kernel
theorem dX12_clerk_0 : decode cX12_clerk 0 = .ok (.iload_n 1, 1) := by decide +kernel
theorem dX12_clerk_1 : decode cX12_clerk 1 = .ok (.iconst 0, 1) := by decide +kernel
theorem dX12_clerk_2 : decode cX12_clerk 2 = .ok (.sipush 1000, 3) := by decide +kernel
theorem dX12_clerk_5 : decode cX12_clerk 5 = .ok (.invokestatic 174, 3) := by decide +kernel
theorem dX12_clerk_8 : decode cX12_clerk 8 = .ok (.ifCond .eq 22, 3) := by decide +kernel
theorem dX12_clerk_11 : decode cX12_clerk 11 = .ok (.iload_n 2, 1) := by decide +kernel
theorem dX12_clerk_12 : decode cX12_clerk 12 = .ok (.iconst 0, 1) := by decide +kernel
theorem dX12_clerk_13 : decode cX12_clerk 13 = .ok (.bipush 100, 2) := by decide +kernel
theorem dX12_clerk_15 : decode cX12_clerk 15 = .ok (.invokestatic 174, 3) := by decide +kernel
theorem dX12_clerk_18 : decode cX12_clerk 18 = .ok (.ifCond .eq 12, 3) := by decide +kernel
theorem dX12_clerk_21 : decode cX12_clerk 21 = .ok (.aload_n 0, 1) := by decide +kernel
theorem dX12_clerk_22 : decode cX12_clerk 22 = .ok (.getfield 165, 3) := by decide +kernel
theorem dX12_clerk_25 : decode cX12_clerk 25 = .ok (.bipush 10, 2) := by decide +kernel
theorem dX12_clerk_27 : decode cX12_clerk 27 = .ok (.if_icmp .ne 5, 3) := by decide +kernel
theorem dX12_clerk_30 : decode cX12_clerk 30 = .ok (.iconst (-1), 1) := by decide +kernel
theorem dX12_clerk_31 : decode cX12_clerk 31 = .ok (.ireturn, 1) := by decide +kernel
theorem dX12_clerk_32 : decode cX12_clerk 32 = .ok (.aload_n 0, 1) := by decide +kernel
theorem dX12_clerk_33 : decode cX12_clerk 33 = .ok (.getfield 7, 3) := by decide +kernel
theorem dX12_clerk_36 : decode cX12_clerk 36 = .ok (.aload_n 0, 1) := by decide +kernel
theorem dX12_clerk_37 : decode cX12_clerk 37 = .ok (.getfield 165, 3) := by decide +kernel
theorem dX12_clerk_40 : decode cX12_clerk 40 = .ok (.iload_n 1, 1) := by decide +kernel
theorem dX12_clerk_41 : decode cX12_clerk 41 = .ok (.iastore, 1) := by decide +kernel
theorem dX12_clerk_42 : decode cX12_clerk 42 = .ok (.aload_n 0, 1) := by decide +kernel
theorem dX12_clerk_43 : decode cX12_clerk 43 = .ok (.getfield 13, 3) := by decide +kernel
theorem dX12_clerk_46 : decode cX12_clerk 46 = .ok (.aload_n 0, 1) := by decide +kernel
theorem dX12_clerk_47 : decode cX12_clerk 47 = .ok (.getfield 165, 3) := by decide +kernel
theorem dX12_clerk_50 : decode cX12_clerk 50 = .ok (.iload_n 2, 1) := by decide +kernel
theorem dX12_clerk_51 : decode cX12_clerk 51 = .ok (.iastore, 1) := by decide +kernel
theorem dX12_clerk_52 : decode cX12_clerk 52 = .ok (.aload_n 0, 1) := by decide +kernel
theorem dX12_clerk_53 : decode cX12_clerk 53 = .ok (.aload_n 0, 1) := by decide +kernel
theorem dX12_clerk_54 : decode cX12_clerk 54 = .ok (.getfield 165, 3) := by decide +kernel
theorem dX12_clerk_57 : decode cX12_clerk 57 = .ok (.iconst 1, 1) := by decide +kernel
theorem dX12_clerk_58 : decode cX12_clerk 58 = .ok (.iadd, 1) := by decide +kernel
theorem dX12_clerk_59 : decode cX12_clerk 59 = .ok (.putfield 165, 3) := by decide +kernel
theorem dX12_clerk_62 : decode cX12_clerk 62 = .ok (.aload_n 0, 1) := by decide +kernel
theorem dX12_clerk_63 : decode cX12_clerk 63 = .ok (.getfield 165, 3) := by decide +kernel
theorem dX12_clerk_66 : decode cX12_clerk 66 = .ok (.iconst 1, 1) := by decide +kernel
theorem dX12_clerk_67 : decode cX12_clerk 67 = .ok (.isub, 1) := by decide +kernel
theorem dX12_clerk_68 : decode cX12_clerk 68 = .ok (.ireturn, 1) := by decide +kernel
theorem dX12_step_0 : decode cX12_step 0 = .ok (.aload_n 0, 1) := by decide +kernel
theorem dX12_step_1 : decode cX12_step 1 = .ok (.iload_n 1, 1) := by decide +kernel
theorem dX12_step_2 : decode cX12_step 2 = .ok (.invokevirtual 178, 3) := by decide +kernel
theorem dX12_step_5 : decode cX12_step 5 = .ok (.ifCond .eq 32, 3) := by decide +kernel
theorem dX12_step_8 : decode cX12_step 8 = .ok (.iload_n 1, 1) := by decide +kernel
theorem dX12_step_9 : decode cX12_step 9 = .ok (.ifCond .eq 28, 3) := by decide +kernel
theorem dX12_step_12 : decode cX12_step 12 = .ok (.iload_n 2, 1) := by decide +kernel
theorem dX12_step_13 : decode cX12_step 13 = .ok (.iconst 0, 1) := by decide +kernel
theorem dX12_step_14 : decode cX12_step 14 = .ok (.iconst 2, 1) := by decide +kernel
theorem dX12_step_15 : decode cX12_step 15 = .ok (.invokestatic 174, 3) := by decide +kernel
theorem dX12_step_18 : decode cX12_step 18 = .ok (.ifCond .eq 19, 3) := by decide +kernel
theorem dX12_step_21 : decode cX12_step 21 = .ok (.aload_n 0, 1) := by decide +kernel
theorem dX12_step_22 : decode cX12_step 22 = .ok (.getfield 168, 3) := by decide +kernel
theorem dX12_step_25 : decode cX12_step 25 = .ok (.bipush 8, 2) := by decide +kernel
theorem dX12_step_27 : decode cX12_step 27 = .ok (.if_icmp .eq 10, 3) := by decide +kernel
theorem dX12_step_30 : decode cX12_step 30 = .ok (.aload_n 0, 1) := by decide +kernel
theorem dX12_step_31 : decode cX12_step 31 = .ok (.getfield 171, 3) := by decide +kernel
theorem dX12_step_34 : decode cX12_step 34 = .ok (.ifCond .le 5, 3) := by decide +kernel
theorem dX12_step_37 : decode cX12_step 37 = .ok (.iconst (-1), 1) := by decide +kernel
theorem dX12_step_38 : decode cX12_step 38 = .ok (.ireturn, 1) := by decide +kernel
theorem dX12_step_39 : decode cX12_step 39 = .ok (.aload_n 0, 1) := by decide +kernel
theorem dX12_step_40 : decode cX12_step 40 = .ok (.getfield 22, 3) := by decide +kernel
theorem dX12_step_43 : decode cX12_step 43 = .ok (.aload_n 0, 1) := by decide +kernel
theorem dX12_step_44 : decode cX12_step 44 = .ok (.getfield 168, 3) := by decide +kernel
theorem dX12_step_47 : decode cX12_step 47 = .ok (.iload_n 1, 1) := by decide +kernel
theorem dX12_step_48 : decode cX12_step 48 = .ok (.iastore, 1) := by decide +kernel
theorem dX12_step_49 : decode cX12_step 49 = .ok (.aload_n 0, 1) := by decide +kernel
theorem dX12_step_50 : decode cX12_step 50 = .ok (.getfield 25, 3) := by decide +kernel
theorem dX12_step_53 : decode cX12_step 53 = .ok (.aload_n 0, 1) := by decide +kernel
theorem dX12_step_54 : decode cX12_step 54 = .ok (.getfield 168, 3) := by decide +kernel
theorem dX12_step_57 : decode cX12_step 57 = .ok (.iload_n 2, 1) := by decide +kernel
theorem dX12_step_58 : decode cX12_step 58 = .ok (.iastore, 1) := by decide +kernel
theorem dX12_step_59 : decode cX12_step 59 = .ok (.aload_n 0, 1) := by decide +kernel
theorem dX12_step_60 : decode cX12_step 60 = .ok (.aload_n 0, 1) := by decide +kernel
theorem dX12_step_61 : decode cX12_step 61 = .ok (.getfield 168, 3) := by decide +kernel
theorem dX12_step_64 : decode cX12_step 64 = .ok (.iconst 1, 1) := by decide +kernel
theorem dX12_step_65 : decode cX12_step 65 = .ok (.iadd, 1) := by decide +kernel
theorem dX12_step_66 : decode cX12_step 66 = .ok (.putfield 168, 3) := by decide +kernel
theorem dX12_step_69 : decode cX12_step 69 = .ok (.aload_n 0, 1) := by decide +kernel
theorem dX12_step_70 : decode cX12_step 70 = .ok (.getfield 168, 3) := by decide +kernel
theorem dX12_step_73 : decode cX12_step 73 = .ok (.iconst 1, 1) := by decide +kernel
theorem dX12_step_74 : decode cX12_step 74 = .ok (.isub, 1) := by decide +kernel
theorem dX12_step_75 : decode cX12_step 75 = .ok (.ireturn, 1) := by decide +kernel
theorem dX12_seed_0 : decode cX12_seed 0 = .ok (.iload_n 1, 1) := by decide +kernel
theorem dX12_seed_1 : decode cX12_seed 1 = .ok (.iconst 0, 1) := by decide +kernel
theorem dX12_seed_2 : decode cX12_seed 2 = .ok (.ldc 182, 2) := by decide +kernel
theorem dX12_seed_4 : decode cX12_seed 4 = .ok (.invokestatic 174, 3) := by decide +kernel
theorem dX12_seed_7 : decode cX12_seed 7 = .ok (.ifCond .ne 5, 3) := by decide +kernel
theorem dX12_seed_10 : decode cX12_seed 10 = .ok (.iconst 0, 1) := by decide +kernel
theorem dX12_seed_11 : decode cX12_seed 11 = .ok (.ireturn, 1) := by decide +kernel
theorem dX12_seed_12 : decode cX12_seed 12 = .ok (.aload_n 0, 1) := by decide +kernel
theorem dX12_seed_13 : decode cX12_seed 13 = .ok (.iload_n 1, 1) := by decide +kernel
theorem dX12_seed_14 : decode cX12_seed 14 = .ok (.putfield 158, 3) := by decide +kernel
theorem dX12_seed_17 : decode cX12_seed 17 = .ok (.aload_n 0, 1) := by decide +kernel
theorem dX12_seed_18 : decode cX12_seed 18 = .ok (.iload_n 1, 1) := by decide +kernel
theorem dX12_seed_19 : decode cX12_seed 19 = .ok (.putfield 162, 3) := by decide +kernel
theorem dX12_seed_22 : decode cX12_seed 22 = .ok (.iconst 1, 1) := by decide +kernel
theorem dX12_seed_23 : decode cX12_seed 23 = .ok (.ireturn, 1) := by decide +kernel
theorem dX12_file_0 : decode cX12_file 0 = .ok (.iload_n 1, 1) := by decide +kernel
theorem dX12_file_1 : decode cX12_file 1 = .ok (.iconst 0, 1) := by decide +kernel
theorem dX12_file_2 : decode cX12_file 2 = .ok (.iconst 1, 1) := by decide +kernel
theorem dX12_file_3 : decode cX12_file 3 = .ok (.invokestatic 174, 3) := by decide +kernel
theorem dX12_file_6 : decode cX12_file 6 = .ok (.ifCond .eq 41, 3) := by decide +kernel
theorem dX12_file_9 : decode cX12_file 9 = .ok (.iload_n 2, 1) := by decide +kernel
theorem dX12_file_10 : decode cX12_file 10 = .ok (.iconst 0, 1) := by decide +kernel
theorem dX12_file_11 : decode cX12_file 11 = .ok (.sipush 10000, 3) := by decide +kernel
theorem dX12_file_14 : decode cX12_file 14 = .ok (.invokestatic 174, 3) := by decide +kernel
theorem dX12_file_17 : decode cX12_file 17 = .ok (.ifCond .eq 30, 3) := by decide +kernel
theorem dX12_file_20 : decode cX12_file 20 = .ok (.iload_n 3, 1) := by decide +kernel
theorem dX12_file_21 : decode cX12_file 21 = .ok (.iconst 0, 1) := by decide +kernel
theorem dX12_file_22 : decode cX12_file 22 = .ok (.sipush 200, 3) := by decide +kernel
theorem dX12_file_25 : decode cX12_file 25 = .ok (.invokestatic 174, 3) := by decide +kernel
theorem dX12_file_28 : decode cX12_file 28 = .ok (.ifCond .eq 19, 3) := by decide +kernel
theorem dX12_file_31 : decode cX12_file 31 = .ok (.aload_n 0, 1) := by decide +kernel
theorem dX12_file_32 : decode cX12_file 32 = .ok (.getfield 171, 3) := by decide +kernel
theorem dX12_file_35 : decode cX12_file 35 = .ok (.bipush 40, 2) := by decide +kernel
theorem dX12_file_37 : decode cX12_file 37 = .ok (.if_icmp .eq 10, 3) := by decide +kernel
theorem dX12_file_40 : decode cX12_file 40 = .ok (.aload_n 0, 1) := by decide +kernel
theorem dX12_file_41 : decode cX12_file 41 = .ok (.getfield 168, 3) := by decide +kernel
theorem dX12_file_44 : decode cX12_file 44 = .ok (.ifCond .ne 5, 3) := by decide +kernel
theorem dX12_file_47 : decode cX12_file 47 = .ok (.iconst (-1), 1) := by decide +kernel
theorem dX12_file_48 : decode cX12_file 48 = .ok (.ireturn, 1) := by decide +kernel
theorem dX12_file_49 : decode cX12_file 49 = .ok (.aload_n 0, 1) := by decide +kernel
theorem dX12_file_50 : decode cX12_file 50 = .ok (.getfield 28, 3) := by decide +kernel
theorem dX12_file_53 : decode cX12_file 53 = .ok (.aload_n 0, 1) := by decide +kernel
theorem dX12_file_54 : decode cX12_file 54 = .ok (.getfield 171, 3) := by decide +kernel
theorem dX12_file_57 : decode cX12_file 57 = .ok (.iload_n 1, 1) := by decide +kernel
theorem dX12_file_58 : decode cX12_file 58 = .ok (.iastore, 1) := by decide +kernel
theorem dX12_file_59 : decode cX12_file 59 = .ok (.aload_n 0, 1) := by decide +kernel
theorem dX12_file_60 : decode cX12_file 60 = .ok (.getfield 31, 3) := by decide +kernel
theorem dX12_file_63 : decode cX12_file 63 = .ok (.aload_n 0, 1) := by decide +kernel
theorem dX12_file_64 : decode cX12_file 64 = .ok (.getfield 171, 3) := by decide +kernel
theorem dX12_file_67 : decode cX12_file 67 = .ok (.iload_n 2, 1) := by decide +kernel
theorem dX12_file_68 : decode cX12_file 68 = .ok (.iastore, 1) := by decide +kernel
theorem dX12_file_69 : decode cX12_file 69 = .ok (.aload_n 0, 1) := by decide +kernel
theorem dX12_file_70 : decode cX12_file 70 = .ok (.getfield 34, 3) := by decide +kernel
theorem dX12_file_73 : decode cX12_file 73 = .ok (.aload_n 0, 1) := by decide +kernel
theorem dX12_file_74 : decode cX12_file 74 = .ok (.getfield 171, 3) := by decide +kernel
theorem dX12_file_77 : decode cX12_file 77 = .ok (.iload_n 3, 1) := by decide +kernel
theorem dX12_file_78 : decode cX12_file 78 = .ok (.iastore, 1) := by decide +kernel
theorem dX12_file_79 : decode cX12_file 79 = .ok (.aload_n 0, 1) := by decide +kernel
theorem dX12_file_80 : decode cX12_file 80 = .ok (.getfield 37, 3) := by decide +kernel
theorem dX12_file_83 : decode cX12_file 83 = .ok (.aload_n 0, 1) := by decide +kernel
theorem dX12_file_84 : decode cX12_file 84 = .ok (.getfield 171, 3) := by decide +kernel
theorem dX12_file_87 : decode cX12_file 87 = .ok (.aload_n 0, 1) := by decide +kernel
theorem dX12_file_88 : decode cX12_file 88 = .ok (.getfield 183, 3) := by decide +kernel
theorem dX12_file_91 : decode cX12_file 91 = .ok (.iastore, 1) := by decide +kernel
theorem dX12_file_92 : decode cX12_file 92 = .ok (.aload_n 0, 1) := by decide +kernel
theorem dX12_file_93 : decode cX12_file 93 = .ok (.getfield 40, 3) := by decide +kernel
theorem dX12_file_96 : decode cX12_file 96 = .ok (.aload_n 0, 1) := by decide +kernel
theorem dX12_file_97 : decode cX12_file 97 = .ok (.getfield 171, 3) := by decide +kernel
theorem dX12_file_100 : decode cX12_file 100 = .ok (.iconst 0, 1) := by decide +kernel
theorem dX12_file_101 : decode cX12_file 101 = .ok (.iastore, 1) := by decide +kernel
theorem dX12_file_102 : decode cX12_file 102 = .ok (.aload_n 0, 1) := by decide +kernel
theorem dX12_file_103 : decode cX12_file 103 = .ok (.getfield 43, 3) := by decide +kernel
theorem dX12_file_106 : decode cX12_file 106 = .ok (.aload_n 0, 1) := by decide +kernel
theorem dX12_file_107 : decode cX12_file 107 = .ok (.getfield 171, 3) := by decide +kernel
theorem dX12_file_110 : decode cX12_file 110 = .ok (.iload_n 2, 1) := by decide +kernel
theorem dX12_file_111 : decode cX12_file 111 = .ok (.iastore, 1) := by decide +kernel
theorem dX12_file_112 : decode cX12_file 112 = .ok (.aload_n 0, 1) := by decide +kernel
theorem dX12_file_113 : decode cX12_file 113 = .ok (.getfield 46, 3) := by decide +kernel
theorem dX12_file_116 : decode cX12_file 116 = .ok (.aload_n 0, 1) := by decide +kernel
theorem dX12_file_117 : decode cX12_file 117 = .ok (.getfield 171, 3) := by decide +kernel
theorem dX12_file_120 : decode cX12_file 120 = .ok (.iconst 0, 1) := by decide +kernel
theorem dX12_file_121 : decode cX12_file 121 = .ok (.iastore, 1) := by decide +kernel
theorem dX12_file_122 : decode cX12_file 122 = .ok (.aload_n 0, 1) := by decide +kernel
theorem dX12_file_123 : decode cX12_file 123 = .ok (.getfield 49, 3) := by decide +kernel
theorem dX12_file_126 : decode cX12_file 126 = .ok (.aload_n 0, 1) := by decide +kernel
theorem dX12_file_127 : decode cX12_file 127 = .ok (.getfield 171, 3) := by decide +kernel
theorem dX12_file_130 : decode cX12_file 130 = .ok (.iconst 0, 1) := by decide +kernel
theorem dX12_file_131 : decode cX12_file 131 = .ok (.iastore, 1) := by decide +kernel
theorem dX12_file_132 : decode cX12_file 132 = .ok (.aload_n 0, 1) := by decide +kernel
theorem dX12_file_133 : decode cX12_file 133 = .ok (.getfield 52, 3) := by decide +kernel
theorem dX12_file_136 : decode cX12_file 136 = .ok (.aload_n 0, 1) := by decide +kernel
theorem dX12_file_137 : decode cX12_file 137 = .ok (.getfield 171, 3) := by decide +kernel
theorem dX12_file_140 : decode cX12_file 140 = .ok (.iconst 0, 1) := by decide +kernel
theorem dX12_file_141 : decode cX12_file 141 = .ok (.iastore, 1) := by decide +kernel
theorem dX12_file_142 : decode cX12_file 142 = .ok (.aload_n 0, 1) := by decide +kernel
theorem dX12_file_143 : decode cX12_file 143 = .ok (.getfield 55, 3) := by decide +kernel
theorem dX12_file_146 : decode cX12_file 146 = .ok (.aload_n 0, 1) := by decide +kernel
theorem dX12_file_147 : decode cX12_file 147 = .ok (.getfield 171, 3) := by decide +kernel
theorem dX12_file_150 : decode cX12_file 150 = .ok (.iconst (-1), 1) := by decide +kernel
theorem dX12_file_151 : decode cX12_file 151 = .ok (.iastore, 1) := by decide +kernel
theorem dX12_file_152 : decode cX12_file 152 = .ok (.aload_n 0, 1) := by decide +kernel
theorem dX12_file_153 : decode cX12_file 153 = .ok (.aload_n 0, 1) := by decide +kernel
theorem dX12_file_154 : decode cX12_file 154 = .ok (.getfield 171, 3) := by decide +kernel
theorem dX12_file_157 : decode cX12_file 157 = .ok (.iconst 1, 1) := by decide +kernel
theorem dX12_file_158 : decode cX12_file 158 = .ok (.iadd, 1) := by decide +kernel
theorem dX12_file_159 : decode cX12_file 159 = .ok (.putfield 171, 3) := by decide +kernel
theorem dX12_file_162 : decode cX12_file 162 = .ok (.aload_n 0, 1) := by decide +kernel
theorem dX12_file_163 : decode cX12_file 163 = .ok (.getfield 171, 3) := by decide +kernel
theorem dX12_file_166 : decode cX12_file 166 = .ok (.iconst 1, 1) := by decide +kernel
theorem dX12_file_167 : decode cX12_file 167 = .ok (.isub, 1) := by decide +kernel
theorem dX12_file_168 : decode cX12_file 168 = .ok (.ireturn, 1) := by decide +kernel
theorem dX12_types_0 : decode cX12_types 0 = .ok (.iconst 3, 1) := by decide +kernel
theorem dX12_types_1 : decode cX12_types 1 = .ok (.istore_n 2, 1) := by decide +kernel
theorem dX12_types_2 : decode cX12_types 2 = .ok (.iload_n 2, 1) := by decide +kernel
theorem dX12_types_3 : decode cX12_types 3 = .ok (.ifCond .lt 35, 3) := by decide +kernel
theorem dX12_types_6 : decode cX12_types 6 = .ok (.aload_n 0, 1) := by decide +kernel
theorem dX12_types_7 : decode cX12_types 7 = .ok (.getfield 58, 3) := by decide +kernel
theorem dX12_types_10 : decode cX12_types 10 = .ok (.aload_n 0, 1) := by decide +kernel
theorem dX12_types_11 : decode cX12_types 11 = .ok (.getfield 186, 3) := by decide +kernel
theorem dX12_types_14 : decode cX12_types 14 = .ok (.iload_n 1, 1) := by decide +kernel
theorem dX12_types_15 : decode cX12_types 15 = .ok (.bipush 8, 2) := by decide +kernel
theorem dX12_types_17 : decode cX12_types 17 = .ok (.iload_n 2, 1) := by decide +kernel
theorem dX12_types_18 : decode cX12_types 18 = .ok (.imul, 1) := by decide +kernel
theorem dX12_types_19 : decode cX12_types 19 = .ok (.ishr, 1) := by decide +kernel
theorem dX12_types_20 : decode cX12_types 20 = .ok (.i2b, 1) := by decide +kernel
theorem dX12_types_21 : decode cX12_types 21 = .ok (.bastore, 1) := by decide +kernel
theorem dX12_types_22 : decode cX12_types 22 = .ok (.aload_n 0, 1) := by decide +kernel
theorem dX12_types_23 : decode cX12_types 23 = .ok (.aload_n 0, 1) := by decide +kernel
theorem dX12_types_24 : decode cX12_types 24 = .ok (.getfield 186, 3) := by decide +kernel
theorem dX12_types_27 : decode cX12_types 27 = .ok (.iconst 1, 1) := by decide +kernel
theorem dX12_types_28 : decode cX12_types 28 = .ok (.iadd, 1) := by decide +kernel
theorem dX12_types_29 : decode cX12_types 29 = .ok (.putfield 186, 3) := by decide +kernel
theorem dX12_types_32 : decode cX12_types 32 = .ok (.iinc 2 (-1), 3) := by decide +kernel
theorem dX12_types_35 : decode cX12_types 35 = .ok (.goto (-33), 3) := by decide +kernel
theorem dX12_types_38 : decode cX12_types 38 = .ok (.return_, 1) := by decide +kernel
theorem dX12_feed_0 : decode cX12_feed 0 = .ok (.aload_n 0, 1) := by decide +kernel
theorem dX12_feed_1 : decode cX12_feed 1 = .ok (.getfield 186, 3) := by decide +kernel
theorem dX12_feed_4 : decode cX12_feed 4 = .ok (.bipush 20, 2) := by decide +kernel
theorem dX12_feed_6 : decode cX12_feed 6 = .ok (.iadd, 1) := by decide +kernel
theorem dX12_feed_7 : decode cX12_feed 7 = .ok (.sipush 200, 3) := by decide +kernel
theorem dX12_feed_10 : decode cX12_feed 10 = .ok (.if_icmp .le 5, 3) := by decide +kernel
theorem dX12_feed_13 : decode cX12_feed 13 = .ok (.iconst (-1), 1) := by decide +kernel
theorem dX12_feed_14 : decode cX12_feed 14 = .ok (.ireturn, 1) := by decide +kernel
theorem dX12_feed_15 : decode cX12_feed 15 = .ok (.aload_n 0, 1) := by decide +kernel
theorem dX12_feed_16 : decode cX12_feed 16 = .ok (.iload_n 1, 1) := by decide +kernel
theorem dX12_feed_17 : decode cX12_feed 17 = .ok (.invokevirtual 189, 3) := by decide +kernel
theorem dX12_feed_20 : decode cX12_feed 20 = .ok (.aload_n 0, 1) := by decide +kernel
theorem dX12_feed_21 : decode cX12_feed 21 = .ok (.iload_n 2, 1) := by decide +kernel
theorem dX12_feed_22 : decode cX12_feed 22 = .ok (.invokevirtual 189, 3) := by decide +kernel
theorem dX12_feed_25 : decode cX12_feed 25 = .ok (.aload_n 0, 1) := by decide +kernel
theorem dX12_feed_26 : decode cX12_feed 26 = .ok (.iload_n 3, 1) := by decide +kernel
theorem dX12_feed_27 : decode cX12_feed 27 = .ok (.invokevirtual 189, 3) := by decide +kernel
theorem dX12_feed_30 : decode cX12_feed 30 = .ok (.aload_n 0, 1) := by decide +kernel
theorem dX12_feed_31 : decode cX12_feed 31 = .ok (.iload 4, 2) := by decide +kernel
theorem dX12_feed_33 : decode cX12_feed 33 = .ok (.invokevirtual 189, 3) := by decide +kernel
theorem dX12_feed_36 : decode cX12_feed 36 = .ok (.aload_n 0, 1) := by decide +kernel
theorem dX12_feed_37 : decode cX12_feed 37 = .ok (.iload 5, 2) := by decide +kernel
theorem dX12_feed_39 : decode cX12_feed 39 = .ok (.invokevirtual 189, 3) := by decide +kernel
theorem dX12_feed_42 : decode cX12_feed 42 = .ok (.aload_n 0, 1) := by decide +kernel
theorem dX12_feed_43 : decode cX12_feed 43 = .ok (.getfield 186, 3) := by decide +kernel
theorem dX12_feed_46 : decode cX12_feed 46 = .ok (.ireturn, 1) := by decide +kernel
theorem dX12_here_0 : decode cX12_here 0 = .ok (.aload_n 0, 1) := by decide +kernel
theorem dX12_here_1 : decode cX12_here 1 = .ok (.getfield 193, 3) := by decide +kernel
theorem dX12_here_4 : decode cX12_here 4 = .ok (.aload_n 0, 1) := by decide +kernel
theorem dX12_here_5 : decode cX12_here 5 = .ok (.getfield 196, 3) := by decide +kernel
theorem dX12_here_8 : decode cX12_here 8 = .ok (.if_icmp .ge 19, 3) := by decide +kernel
theorem dX12_here_11 : decode cX12_here 11 = .ok (.aload_n 0, 1) := by decide +kernel
theorem dX12_here_12 : decode cX12_here 12 = .ok (.getfield 58, 3) := by decide +kernel
theorem dX12_here_15 : decode cX12_here 15 = .ok (.aload_n 0, 1) := by decide +kernel
theorem dX12_here_16 : decode cX12_here 16 = .ok (.getfield 193, 3) := by decide +kernel
theorem dX12_here_19 : decode cX12_here 19 = .ok (.baload, 1) := by decide +kernel
theorem dX12_here_20 : decode cX12_here 20 = .ok (.sipush 255, 3) := by decide +kernel
theorem dX12_here_23 : decode cX12_here 23 = .ok (.iand, 1) := by decide +kernel
theorem dX12_here_24 : decode cX12_here 24 = .ok (.goto 4, 3) := by decide +kernel
theorem dX12_here_27 : decode cX12_here 27 = .ok (.iconst (-1), 1) := by decide +kernel
theorem dX12_here_28 : decode cX12_here 28 = .ok (.ireturn, 1) := by decide +kernel
theorem dX12_isDigit_0 : decode cX12_isDigit 0 = .ok (.aload_n 0, 1) := by decide +kernel
theorem dX12_isDigit_1 : decode cX12_isDigit 1 = .ok (.invokevirtual 199, 3) := by decide +kernel
theorem dX12_isDigit_4 : decode cX12_isDigit 4 = .ok (.bipush 48, 2) := by decide +kernel
theorem dX12_isDigit_6 : decode cX12_isDigit 6 = .ok (.if_icmp .lt 16, 3) := by decide +kernel
theorem dX12_isDigit_9 : decode cX12_isDigit 9 = .ok (.aload_n 0, 1) := by decide +kernel
theorem dX12_isDigit_10 : decode cX12_isDigit 10 = .ok (.invokevirtual 199, 3) := by decide +kernel
theorem dX12_isDigit_13 : decode cX12_isDigit 13 = .ok (.bipush 57, 2) := by decide +kernel
theorem dX12_isDigit_15 : decode cX12_isDigit 15 = .ok (.if_icmp .gt 7, 3) := by decide +kernel
theorem dX12_isDigit_18 : decode cX12_isDigit 18 = .ok (.iconst 1, 1) := by decide +kernel
theorem dX12_isDigit_19 : decode cX12_isDigit 19 = .ok (.goto 4, 3) := by decide +kernel
theorem dX12_isDigit_22 : decode cX12_isDigit 22 = .ok (.iconst 0, 1) := by decide +kernel
theorem dX12_isDigit_23 : decode cX12_isDigit 23 = .ok (.ireturn, 1) := by decide +kernel
theorem dX12_wrong_0 : decode cX12_wrong 0 = .ok (.aload_n 0, 1) := by decide +kernel
theorem dX12_wrong_1 : decode cX12_wrong 1 = .ok (.sipush (-1000), 3) := by decide +kernel
theorem dX12_wrong_4 : decode cX12_wrong 4 = .ok (.iload_n 1, 1) := by decide +kernel
theorem dX12_wrong_5 : decode cX12_wrong 5 = .ok (.imul, 1) := by decide +kernel
theorem dX12_wrong_6 : decode cX12_wrong 6 = .ok (.iload_n 2, 1) := by decide +kernel
theorem dX12_wrong_7 : decode cX12_wrong 7 = .ok (.isub, 1) := by decide +kernel
theorem dX12_wrong_8 : decode cX12_wrong 8 = .ok (.putfield 203, 3) := by decide +kernel
theorem dX12_wrong_11 : decode cX12_wrong 11 = .ok (.iconst 0, 1) := by decide +kernel
theorem dX12_wrong_12 : decode cX12_wrong 12 = .ok (.ireturn, 1) := by decide +kernel
theorem dX12_takes_0 : decode cX12_takes 0 = .ok (.aload_n 0, 1) := by decide +kernel
theorem dX12_takes_1 : decode cX12_takes 1 = .ok (.invokevirtual 199, 3) := by decide +kernel
theorem dX12_takes_4 : decode cX12_takes 4 = .ok (.iload_n 1, 1) := by decide +kernel
theorem dX12_takes_5 : decode cX12_takes 5 = .ok (.if_icmp .eq 13, 3) := by decide +kernel
theorem dX12_takes_8 : decode cX12_takes 8 = .ok (.aload_n 0, 1) := by decide +kernel
theorem dX12_takes_9 : decode cX12_takes 9 = .ok (.iconst 1, 1) := by decide +kernel
theorem dX12_takes_10 : decode cX12_takes 10 = .ok (.aload_n 0, 1) := by decide +kernel
theorem dX12_takes_11 : decode cX12_takes 11 = .ok (.getfield 193, 3) := by decide +kernel
theorem dX12_takes_14 : decode cX12_takes 14 = .ok (.invokevirtual 206, 3) := by decide +kernel
theorem dX12_takes_17 : decode cX12_takes 17 = .ok (.ireturn, 1) := by decide +kernel
theorem dX12_takes_18 : decode cX12_takes 18 = .ok (.aload_n 0, 1) := by decide +kernel
theorem dX12_takes_19 : decode cX12_takes 19 = .ok (.aload_n 0, 1) := by decide +kernel
theorem dX12_takes_20 : decode cX12_takes 20 = .ok (.getfield 193, 3) := by decide +kernel
theorem dX12_takes_23 : decode cX12_takes 23 = .ok (.iconst 1, 1) := by decide +kernel
theorem dX12_takes_24 : decode cX12_takes 24 = .ok (.iadd, 1) := by decide +kernel
theorem dX12_takes_25 : decode cX12_takes 25 = .ok (.putfield 193, 3) := by decide +kernel
theorem dX12_takes_28 : decode cX12_takes 28 = .ok (.iconst 1, 1) := by decide +kernel
theorem dX12_takes_29 : decode cX12_takes 29 = .ok (.ireturn, 1) := by decide +kernel
theorem dX12_readsNumber_0 : decode cX12_readsNumber 0 = .ok (.aload_n 0, 1) := by decide +kernel
theorem dX12_readsNumber_1 : decode cX12_readsNumber 1 = .ok (.getfield 193, 3) := by decide +kernel
theorem dX12_readsNumber_4 : decode cX12_readsNumber 4 = .ok (.istore_n 1, 1) := by decide +kernel
theorem dX12_readsNumber_5 : decode cX12_readsNumber 5 = .ok (.aload_n 0, 1) := by decide +kernel
theorem dX12_readsNumber_6 : decode cX12_readsNumber 6 = .ok (.iconst 0, 1) := by decide +kernel
theorem dX12_readsNumber_7 : decode cX12_readsNumber 7 = .ok (.putfield 210, 3) := by decide +kernel
theorem dX12_readsNumber_10 : decode cX12_readsNumber 10 = .ok (.aload_n 0, 1) := by decide +kernel
theorem dX12_readsNumber_11 : decode cX12_readsNumber 11 = .ok (.invokevirtual 213, 3) := by decide +kernel
theorem dX12_readsNumber_14 : decode cX12_readsNumber 14 = .ok (.ifCond .eq 55, 3) := by decide +kernel
theorem dX12_readsNumber_17 : decode cX12_readsNumber 17 = .ok (.aload_n 0, 1) := by decide +kernel
theorem dX12_readsNumber_18 : decode cX12_readsNumber 18 = .ok (.getfield 193, 3) := by decide +kernel
theorem dX12_readsNumber_21 : decode cX12_readsNumber 21 = .ok (.iload_n 1, 1) := by decide +kernel
theorem dX12_readsNumber_22 : decode cX12_readsNumber 22 = .ok (.iconst 5, 1) := by decide +kernel
theorem dX12_readsNumber_23 : decode cX12_readsNumber 23 = .ok (.iadd, 1) := by decide +kernel
theorem dX12_readsNumber_24 : decode cX12_readsNumber 24 = .ok (.if_icmp .ne 13, 3) := by decide +kernel
theorem dX12_readsNumber_27 : decode cX12_readsNumber 27 = .ok (.aload_n 0, 1) := by decide +kernel
theorem dX12_readsNumber_28 : decode cX12_readsNumber 28 = .ok (.iconst 2, 1) := by decide +kernel
theorem dX12_readsNumber_29 : decode cX12_readsNumber 29 = .ok (.aload_n 0, 1) := by decide +kernel
theorem dX12_readsNumber_30 : decode cX12_readsNumber 30 = .ok (.getfield 193, 3) := by decide +kernel
theorem dX12_readsNumber_33 : decode cX12_readsNumber 33 = .ok (.invokevirtual 206, 3) := by decide +kernel
theorem dX12_readsNumber_36 : decode cX12_readsNumber 36 = .ok (.ireturn, 1) := by decide +kernel
theorem dX12_readsNumber_37 : decode cX12_readsNumber 37 = .ok (.aload_n 0, 1) := by decide +kernel
theorem dX12_readsNumber_38 : decode cX12_readsNumber 38 = .ok (.bipush 10, 2) := by decide +kernel
theorem dX12_readsNumber_40 : decode cX12_readsNumber 40 = .ok (.aload_n 0, 1) := by decide +kernel
theorem dX12_readsNumber_41 : decode cX12_readsNumber 41 = .ok (.getfield 210, 3) := by decide +kernel
theorem dX12_readsNumber_44 : decode cX12_readsNumber 44 = .ok (.imul, 1) := by decide +kernel
theorem dX12_readsNumber_45 : decode cX12_readsNumber 45 = .ok (.aload_n 0, 1) := by decide +kernel
theorem dX12_readsNumber_46 : decode cX12_readsNumber 46 = .ok (.invokevirtual 199, 3) := by decide +kernel
theorem dX12_readsNumber_49 : decode cX12_readsNumber 49 = .ok (.iadd, 1) := by decide +kernel
theorem dX12_readsNumber_50 : decode cX12_readsNumber 50 = .ok (.bipush 48, 2) := by decide +kernel
theorem dX12_readsNumber_52 : decode cX12_readsNumber 52 = .ok (.isub, 1) := by decide +kernel
theorem dX12_readsNumber_53 : decode cX12_readsNumber 53 = .ok (.putfield 210, 3) := by decide +kernel
theorem dX12_readsNumber_56 : decode cX12_readsNumber 56 = .ok (.aload_n 0, 1) := by decide +kernel
theorem dX12_readsNumber_57 : decode cX12_readsNumber 57 = .ok (.aload_n 0, 1) := by decide +kernel
theorem dX12_readsNumber_58 : decode cX12_readsNumber 58 = .ok (.getfield 193, 3) := by decide +kernel
theorem dX12_readsNumber_61 : decode cX12_readsNumber 61 = .ok (.iconst 1, 1) := by decide +kernel
theorem dX12_readsNumber_62 : decode cX12_readsNumber 62 = .ok (.iadd, 1) := by decide +kernel
theorem dX12_readsNumber_63 : decode cX12_readsNumber 63 = .ok (.putfield 193, 3) := by decide +kernel
theorem dX12_readsNumber_66 : decode cX12_readsNumber 66 = .ok (.goto (-56), 3) := by decide +kernel
theorem dX12_readsNumber_69 : decode cX12_readsNumber 69 = .ok (.iconst 1, 1) := by decide +kernel
theorem dX12_readsNumber_70 : decode cX12_readsNumber 70 = .ok (.ireturn, 1) := by decide +kernel
theorem dX12_says_0 : decode cX12_says 0 = .ok (.aload_n 0, 1) := by decide +kernel
theorem dX12_says_1 : decode cX12_says 1 = .ok (.getfield 62, 3) := by decide +kernel
theorem dX12_says_4 : decode cX12_says 4 = .ok (.aload_n 0, 1) := by decide +kernel
theorem dX12_says_5 : decode cX12_says 5 = .ok (.getfield 217, 3) := by decide +kernel
theorem dX12_says_8 : decode cX12_says 8 = .ok (.ldc 220, 2) := by decide +kernel
theorem dX12_says_10 : decode cX12_says 10 = .ok (.iload_n 1, 1) := by decide +kernel
theorem dX12_says_11 : decode cX12_says 11 = .ok (.imul, 1) := by decide +kernel
theorem dX12_says_12 : decode cX12_says 12 = .ok (.iload_n 2, 1) := by decide +kernel
theorem dX12_says_13 : decode cX12_says 13 = .ok (.iadd, 1) := by decide +kernel
theorem dX12_says_14 : decode cX12_says 14 = .ok (.iastore, 1) := by decide +kernel
theorem dX12_says_15 : decode cX12_says 15 = .ok (.aload_n 0, 1) := by decide +kernel
theorem dX12_says_16 : decode cX12_says 16 = .ok (.aload_n 0, 1) := by decide +kernel
theorem dX12_says_17 : decode cX12_says 17 = .ok (.getfield 217, 3) := by decide +kernel
theorem dX12_says_20 : decode cX12_says 20 = .ok (.iconst 1, 1) := by decide +kernel
theorem dX12_says_21 : decode cX12_says 21 = .ok (.iadd, 1) := by decide +kernel
theorem dX12_says_22 : decode cX12_says 22 = .ok (.putfield 217, 3) := by decide +kernel
theorem dX12_says_25 : decode cX12_says 25 = .ok (.return_, 1) := by decide +kernel
theorem dX12_opens_0 : decode cX12_opens 0 = .ok (.aload_n 0, 1) := by decide +kernel
theorem dX12_opens_1 : decode cX12_opens 1 = .ok (.getfield 221, 3) := by decide +kernel
theorem dX12_opens_4 : decode cX12_opens 4 = .ok (.bipush 6, 2) := by decide +kernel
theorem dX12_opens_6 : decode cX12_opens 6 = .ok (.if_icmp .ne 13, 3) := by decide +kernel
theorem dX12_opens_9 : decode cX12_opens 9 = .ok (.aload_n 0, 1) := by decide +kernel
theorem dX12_opens_10 : decode cX12_opens 10 = .ok (.iconst 5, 1) := by decide +kernel
theorem dX12_opens_11 : decode cX12_opens 11 = .ok (.aload_n 0, 1) := by decide +kernel
theorem dX12_opens_12 : decode cX12_opens 12 = .ok (.getfield 193, 3) := by decide +kernel
theorem dX12_opens_15 : decode cX12_opens 15 = .ok (.invokevirtual 206, 3) := by decide +kernel
theorem dX12_opens_18 : decode cX12_opens 18 = .ok (.ireturn, 1) := by decide +kernel
theorem dX12_opens_19 : decode cX12_opens 19 = .ok (.aload_n 0, 1) := by decide +kernel
theorem dX12_opens_20 : decode cX12_opens 20 = .ok (.aload_n 0, 1) := by decide +kernel
theorem dX12_opens_21 : decode cX12_opens 21 = .ok (.getfield 221, 3) := by decide +kernel
theorem dX12_opens_24 : decode cX12_opens 24 = .ok (.iconst 1, 1) := by decide +kernel
theorem dX12_opens_25 : decode cX12_opens 25 = .ok (.iadd, 1) := by decide +kernel
theorem dX12_opens_26 : decode cX12_opens 26 = .ok (.putfield 221, 3) := by decide +kernel
theorem dX12_opens_29 : decode cX12_opens 29 = .ok (.aload_n 0, 1) := by decide +kernel
theorem dX12_opens_30 : decode cX12_opens 30 = .ok (.getfield 65, 3) := by decide +kernel
theorem dX12_opens_33 : decode cX12_opens 33 = .ok (.aload_n 0, 1) := by decide +kernel
theorem dX12_opens_34 : decode cX12_opens 34 = .ok (.getfield 224, 3) := by decide +kernel
theorem dX12_opens_37 : decode cX12_opens 37 = .ok (.ldc 220, 2) := by decide +kernel
theorem dX12_opens_39 : decode cX12_opens 39 = .ok (.iload_n 1, 1) := by decide +kernel
theorem dX12_opens_40 : decode cX12_opens 40 = .ok (.imul, 1) := by decide +kernel
theorem dX12_opens_41 : decode cX12_opens 41 = .ok (.iastore, 1) := by decide +kernel
theorem dX12_opens_42 : decode cX12_opens 42 = .ok (.aload_n 0, 1) := by decide +kernel
theorem dX12_opens_43 : decode cX12_opens 43 = .ok (.aload_n 0, 1) := by decide +kernel
theorem dX12_opens_44 : decode cX12_opens 44 = .ok (.getfield 224, 3) := by decide +kernel
theorem dX12_opens_47 : decode cX12_opens 47 = .ok (.iconst 1, 1) := by decide +kernel
theorem dX12_opens_48 : decode cX12_opens 48 = .ok (.iadd, 1) := by decide +kernel
theorem dX12_opens_49 : decode cX12_opens 49 = .ok (.putfield 224, 3) := by decide +kernel
theorem dX12_opens_52 : decode cX12_opens 52 = .ok (.aload_n 0, 1) := by decide +kernel
theorem dX12_opens_53 : decode cX12_opens 53 = .ok (.aload_n 0, 1) := by decide +kernel
theorem dX12_opens_54 : decode cX12_opens 54 = .ok (.getfield 193, 3) := by decide +kernel
theorem dX12_opens_57 : decode cX12_opens 57 = .ok (.iconst 1, 1) := by decide +kernel
theorem dX12_opens_58 : decode cX12_opens 58 = .ok (.iadd, 1) := by decide +kernel
theorem dX12_opens_59 : decode cX12_opens 59 = .ok (.putfield 193, 3) := by decide +kernel
theorem dX12_opens_62 : decode cX12_opens 62 = .ok (.iconst 1, 1) := by decide +kernel
theorem dX12_opens_63 : decode cX12_opens 63 = .ok (.ireturn, 1) := by decide +kernel
theorem dX12_top_0 : decode cX12_top 0 = .ok (.aload_n 0, 1) := by decide +kernel
theorem dX12_top_1 : decode cX12_top 1 = .ok (.getfield 224, 3) := by decide +kernel
theorem dX12_top_4 : decode cX12_top 4 = .ok (.ifCond .ne 7, 3) := by decide +kernel
theorem dX12_top_7 : decode cX12_top 7 = .ok (.iconst (-1), 1) := by decide +kernel
theorem dX12_top_8 : decode cX12_top 8 = .ok (.goto 17, 3) := by decide +kernel
theorem dX12_top_11 : decode cX12_top 11 = .ok (.aload_n 0, 1) := by decide +kernel
theorem dX12_top_12 : decode cX12_top 12 = .ok (.getfield 65, 3) := by decide +kernel
theorem dX12_top_15 : decode cX12_top 15 = .ok (.aload_n 0, 1) := by decide +kernel
theorem dX12_top_16 : decode cX12_top 16 = .ok (.getfield 224, 3) := by decide +kernel
theorem dX12_top_19 : decode cX12_top 19 = .ok (.iconst 1, 1) := by decide +kernel
theorem dX12_top_20 : decode cX12_top 20 = .ok (.isub, 1) := by decide +kernel
theorem dX12_top_21 : decode cX12_top 21 = .ok (.iaload, 1) := by decide +kernel
theorem dX12_top_22 : decode cX12_top 22 = .ok (.ldc 220, 2) := by decide +kernel
theorem dX12_top_24 : decode cX12_top 24 = .ok (.idiv, 1) := by decide +kernel
theorem dX12_top_25 : decode cX12_top 25 = .ok (.ireturn, 1) := by decide +kernel
theorem dX12_factOf_0 : decode cX12_factOf 0 = .ok (.iload_n 0, 1) := by decide +kernel
theorem dX12_factOf_1 : decode cX12_factOf 1 = .ok (.tableswitch 137 99 121 #[109, 137, 137, 117, 137, 111, 122, 137, 137, 137, 113, 125, 128, 119, 137, 107, 115, 137, 137, 137, 137, 134, 131], 107) := by decide +kernel
theorem dX12_factOf_108 : decode cX12_factOf 108 = .ok (.iconst 0, 1) := by decide +kernel
theorem dX12_factOf_109 : decode cX12_factOf 109 = .ok (.ireturn, 1) := by decide +kernel
theorem dX12_factOf_110 : decode cX12_factOf 110 = .ok (.iconst 1, 1) := by decide +kernel
theorem dX12_factOf_111 : decode cX12_factOf 111 = .ok (.ireturn, 1) := by decide +kernel
theorem dX12_factOf_112 : decode cX12_factOf 112 = .ok (.iconst 2, 1) := by decide +kernel
theorem dX12_factOf_113 : decode cX12_factOf 113 = .ok (.ireturn, 1) := by decide +kernel
theorem dX12_factOf_114 : decode cX12_factOf 114 = .ok (.iconst 3, 1) := by decide +kernel
theorem dX12_factOf_115 : decode cX12_factOf 115 = .ok (.ireturn, 1) := by decide +kernel
theorem dX12_factOf_116 : decode cX12_factOf 116 = .ok (.iconst 4, 1) := by decide +kernel
theorem dX12_factOf_117 : decode cX12_factOf 117 = .ok (.ireturn, 1) := by decide +kernel
theorem dX12_factOf_118 : decode cX12_factOf 118 = .ok (.iconst 5, 1) := by decide +kernel
theorem dX12_factOf_119 : decode cX12_factOf 119 = .ok (.ireturn, 1) := by decide +kernel
theorem dX12_factOf_120 : decode cX12_factOf 120 = .ok (.bipush 6, 2) := by decide +kernel
theorem dX12_factOf_122 : decode cX12_factOf 122 = .ok (.ireturn, 1) := by decide +kernel
theorem dX12_factOf_123 : decode cX12_factOf 123 = .ok (.bipush 7, 2) := by decide +kernel
theorem dX12_factOf_125 : decode cX12_factOf 125 = .ok (.ireturn, 1) := by decide +kernel
theorem dX12_factOf_126 : decode cX12_factOf 126 = .ok (.bipush 8, 2) := by decide +kernel
theorem dX12_factOf_128 : decode cX12_factOf 128 = .ok (.ireturn, 1) := by decide +kernel
theorem dX12_factOf_129 : decode cX12_factOf 129 = .ok (.bipush 9, 2) := by decide +kernel
theorem dX12_factOf_131 : decode cX12_factOf 131 = .ok (.ireturn, 1) := by decide +kernel
theorem dX12_factOf_132 : decode cX12_factOf 132 = .ok (.bipush 10, 2) := by decide +kernel
theorem dX12_factOf_134 : decode cX12_factOf 134 = .ok (.ireturn, 1) := by decide +kernel
theorem dX12_factOf_135 : decode cX12_factOf 135 = .ok (.bipush 11, 2) := by decide +kernel
theorem dX12_factOf_137 : decode cX12_factOf 137 = .ok (.ireturn, 1) := by decide +kernel
theorem dX12_factOf_138 : decode cX12_factOf 138 = .ok (.iconst (-1), 1) := by decide +kernel
theorem dX12_factOf_139 : decode cX12_factOf 139 = .ok (.ireturn, 1) := by decide +kernel
theorem dX12_sumSign_0 : decode cX12_sumSign 0 = .ok (.iload_n 0, 1) := by decide +kernel
theorem dX12_sumSign_1 : decode cX12_sumSign 1 = .ok (.bipush 43, 2) := by decide +kernel
theorem dX12_sumSign_3 : decode cX12_sumSign 3 = .ok (.if_icmp .ne 7, 3) := by decide +kernel
theorem dX12_sumSign_6 : decode cX12_sumSign 6 = .ok (.iconst 2, 1) := by decide +kernel
theorem dX12_sumSign_7 : decode cX12_sumSign 7 = .ok (.goto 45, 3) := by decide +kernel
theorem dX12_sumSign_10 : decode cX12_sumSign 10 = .ok (.iload_n 0, 1) := by decide +kernel
theorem dX12_sumSign_11 : decode cX12_sumSign 11 = .ok (.bipush 45, 2) := by decide +kernel
theorem dX12_sumSign_13 : decode cX12_sumSign 13 = .ok (.if_icmp .ne 7, 3) := by decide +kernel
theorem dX12_sumSign_16 : decode cX12_sumSign 16 = .ok (.iconst 3, 1) := by decide +kernel
theorem dX12_sumSign_17 : decode cX12_sumSign 17 = .ok (.goto 35, 3) := by decide +kernel
theorem dX12_sumSign_20 : decode cX12_sumSign 20 = .ok (.iload_n 0, 1) := by decide +kernel
theorem dX12_sumSign_21 : decode cX12_sumSign 21 = .ok (.bipush 42, 2) := by decide +kernel
theorem dX12_sumSign_23 : decode cX12_sumSign 23 = .ok (.if_icmp .ne 7, 3) := by decide +kernel
theorem dX12_sumSign_26 : decode cX12_sumSign 26 = .ok (.iconst 4, 1) := by decide +kernel
theorem dX12_sumSign_27 : decode cX12_sumSign 27 = .ok (.goto 25, 3) := by decide +kernel
theorem dX12_sumSign_30 : decode cX12_sumSign 30 = .ok (.iload_n 0, 1) := by decide +kernel
theorem dX12_sumSign_31 : decode cX12_sumSign 31 = .ok (.bipush 47, 2) := by decide +kernel
theorem dX12_sumSign_33 : decode cX12_sumSign 33 = .ok (.if_icmp .ne 7, 3) := by decide +kernel
theorem dX12_sumSign_36 : decode cX12_sumSign 36 = .ok (.iconst 5, 1) := by decide +kernel
theorem dX12_sumSign_37 : decode cX12_sumSign 37 = .ok (.goto 15, 3) := by decide +kernel
theorem dX12_sumSign_40 : decode cX12_sumSign 40 = .ok (.iload_n 0, 1) := by decide +kernel
theorem dX12_sumSign_41 : decode cX12_sumSign 41 = .ok (.bipush 37, 2) := by decide +kernel
theorem dX12_sumSign_43 : decode cX12_sumSign 43 = .ok (.if_icmp .ne 8, 3) := by decide +kernel
theorem dX12_sumSign_46 : decode cX12_sumSign 46 = .ok (.bipush 6, 2) := by decide +kernel
theorem dX12_sumSign_48 : decode cX12_sumSign 48 = .ok (.goto 4, 3) := by decide +kernel
theorem dX12_sumSign_51 : decode cX12_sumSign 51 = .ok (.iconst (-1), 1) := by decide +kernel
theorem dX12_sumSign_52 : decode cX12_sumSign 52 = .ok (.ireturn, 1) := by decide +kernel
theorem dX12_closesSums_0 : decode cX12_closesSums 0 = .ok (.aload_n 0, 1) := by decide +kernel
theorem dX12_closesSums_1 : decode cX12_closesSums 1 = .ok (.invokevirtual 227, 3) := by decide +kernel
theorem dX12_closesSums_4 : decode cX12_closesSums 4 = .ok (.iconst 4, 1) := by decide +kernel
theorem dX12_closesSums_5 : decode cX12_closesSums 5 = .ok (.if_icmp .lt 12, 3) := by decide +kernel
theorem dX12_closesSums_8 : decode cX12_closesSums 8 = .ok (.aload_n 0, 1) := by decide +kernel
theorem dX12_closesSums_9 : decode cX12_closesSums 9 = .ok (.invokevirtual 227, 3) := by decide +kernel
theorem dX12_closesSums_12 : decode cX12_closesSums 12 = .ok (.bipush 6, 2) := by decide +kernel
theorem dX12_closesSums_14 : decode cX12_closesSums 14 = .ok (.if_icmp .le 23, 3) := by decide +kernel
theorem dX12_closesSums_17 : decode cX12_closesSums 17 = .ok (.iload_n 1, 1) := by decide +kernel
theorem dX12_closesSums_18 : decode cX12_closesSums 18 = .ok (.ifCond .eq 41, 3) := by decide +kernel
theorem dX12_closesSums_21 : decode cX12_closesSums 21 = .ok (.aload_n 0, 1) := by decide +kernel
theorem dX12_closesSums_22 : decode cX12_closesSums 22 = .ok (.invokevirtual 227, 3) := by decide +kernel
theorem dX12_closesSums_25 : decode cX12_closesSums 25 = .ok (.iconst 2, 1) := by decide +kernel
theorem dX12_closesSums_26 : decode cX12_closesSums 26 = .ok (.if_icmp .eq 11, 3) := by decide +kernel
theorem dX12_closesSums_29 : decode cX12_closesSums 29 = .ok (.aload_n 0, 1) := by decide +kernel
theorem dX12_closesSums_30 : decode cX12_closesSums 30 = .ok (.invokevirtual 227, 3) := by decide +kernel
theorem dX12_closesSums_33 : decode cX12_closesSums 33 = .ok (.iconst 3, 1) := by decide +kernel
theorem dX12_closesSums_34 : decode cX12_closesSums 34 = .ok (.if_icmp .ne 25, 3) := by decide +kernel
theorem dX12_closesSums_37 : decode cX12_closesSums 37 = .ok (.aload_n 0, 1) := by decide +kernel
theorem dX12_closesSums_38 : decode cX12_closesSums 38 = .ok (.aload_n 0, 1) := by decide +kernel
theorem dX12_closesSums_39 : decode cX12_closesSums 39 = .ok (.invokevirtual 227, 3) := by decide +kernel
theorem dX12_closesSums_42 : decode cX12_closesSums 42 = .ok (.iconst 0, 1) := by decide +kernel
theorem dX12_closesSums_43 : decode cX12_closesSums 43 = .ok (.invokevirtual 230, 3) := by decide +kernel
theorem dX12_closesSums_46 : decode cX12_closesSums 46 = .ok (.aload_n 0, 1) := by decide +kernel
theorem dX12_closesSums_47 : decode cX12_closesSums 47 = .ok (.aload_n 0, 1) := by decide +kernel
theorem dX12_closesSums_48 : decode cX12_closesSums 48 = .ok (.getfield 224, 3) := by decide +kernel
theorem dX12_closesSums_51 : decode cX12_closesSums 51 = .ok (.iconst 1, 1) := by decide +kernel
theorem dX12_closesSums_52 : decode cX12_closesSums 52 = .ok (.isub, 1) := by decide +kernel
theorem dX12_closesSums_53 : decode cX12_closesSums 53 = .ok (.putfield 224, 3) := by decide +kernel
theorem dX12_closesSums_56 : decode cX12_closesSums 56 = .ok (.goto (-56), 3) := by decide +kernel
theorem dX12_closesSums_59 : decode cX12_closesSums 59 = .ok (.return_, 1) := by decide +kernel
theorem dX12_readsFactor_0 : decode cX12_readsFactor 0 = .ok (.aload_n 0, 1) := by decide +kernel
theorem dX12_readsFactor_1 : decode cX12_readsFactor 1 = .ok (.invokevirtual 199, 3) := by decide +kernel
theorem dX12_readsFactor_4 : decode cX12_readsFactor 4 = .ok (.bipush 91, 2) := by decide +kernel
theorem dX12_readsFactor_6 : decode cX12_readsFactor 6 = .ok (.if_icmp .ne 14, 3) := by decide +kernel
theorem dX12_readsFactor_9 : decode cX12_readsFactor 9 = .ok (.aload_n 0, 1) := by decide +kernel
theorem dX12_readsFactor_10 : decode cX12_readsFactor 10 = .ok (.bipush 14, 2) := by decide +kernel
theorem dX12_readsFactor_12 : decode cX12_readsFactor 12 = .ok (.invokevirtual 234, 3) := by decide +kernel
theorem dX12_readsFactor_15 : decode cX12_readsFactor 15 = .ok (.ifCond .ne (-15), 3) := by decide +kernel
theorem dX12_readsFactor_18 : decode cX12_readsFactor 18 = .ok (.iconst 0, 1) := by decide +kernel
theorem dX12_readsFactor_19 : decode cX12_readsFactor 19 = .ok (.ireturn, 1) := by decide +kernel
theorem dX12_readsFactor_20 : decode cX12_readsFactor 20 = .ok (.aload_n 0, 1) := by decide +kernel
theorem dX12_readsFactor_21 : decode cX12_readsFactor 21 = .ok (.invokevirtual 213, 3) := by decide +kernel
theorem dX12_readsFactor_24 : decode cX12_readsFactor 24 = .ok (.ifCond .eq 23, 3) := by decide +kernel
theorem dX12_readsFactor_27 : decode cX12_readsFactor 27 = .ok (.aload_n 0, 1) := by decide +kernel
theorem dX12_readsFactor_28 : decode cX12_readsFactor 28 = .ok (.invokevirtual 237, 3) := by decide +kernel
theorem dX12_readsFactor_31 : decode cX12_readsFactor 31 = .ok (.ifCond .ne 5, 3) := by decide +kernel
theorem dX12_readsFactor_34 : decode cX12_readsFactor 34 = .ok (.iconst 0, 1) := by decide +kernel
theorem dX12_readsFactor_35 : decode cX12_readsFactor 35 = .ok (.ireturn, 1) := by decide +kernel
theorem dX12_readsFactor_36 : decode cX12_readsFactor 36 = .ok (.aload_n 0, 1) := by decide +kernel
theorem dX12_readsFactor_37 : decode cX12_readsFactor 37 = .ok (.iconst 0, 1) := by decide +kernel
theorem dX12_readsFactor_38 : decode cX12_readsFactor 38 = .ok (.aload_n 0, 1) := by decide +kernel
theorem dX12_readsFactor_39 : decode cX12_readsFactor 39 = .ok (.getfield 210, 3) := by decide +kernel
theorem dX12_readsFactor_42 : decode cX12_readsFactor 42 = .ok (.invokevirtual 230, 3) := by decide +kernel
theorem dX12_readsFactor_45 : decode cX12_readsFactor 45 = .ok (.iconst 1, 1) := by decide +kernel
theorem dX12_readsFactor_46 : decode cX12_readsFactor 46 = .ok (.ireturn, 1) := by decide +kernel
theorem dX12_readsFactor_47 : decode cX12_readsFactor 47 = .ok (.aload_n 0, 1) := by decide +kernel
theorem dX12_readsFactor_48 : decode cX12_readsFactor 48 = .ok (.invokevirtual 199, 3) := by decide +kernel
theorem dX12_readsFactor_51 : decode cX12_readsFactor 51 = .ok (.invokestatic 240, 3) := by decide +kernel
theorem dX12_readsFactor_54 : decode cX12_readsFactor 54 = .ok (.istore_n 1, 1) := by decide +kernel
theorem dX12_readsFactor_55 : decode cX12_readsFactor 55 = .ok (.iload_n 1, 1) := by decide +kernel
theorem dX12_readsFactor_56 : decode cX12_readsFactor 56 = .ok (.iconst (-1), 1) := by decide +kernel
theorem dX12_readsFactor_57 : decode cX12_readsFactor 57 = .ok (.if_icmp .ne 13, 3) := by decide +kernel
theorem dX12_readsFactor_60 : decode cX12_readsFactor 60 = .ok (.aload_n 0, 1) := by decide +kernel
theorem dX12_readsFactor_61 : decode cX12_readsFactor 61 = .ok (.iconst 1, 1) := by decide +kernel
theorem dX12_readsFactor_62 : decode cX12_readsFactor 62 = .ok (.aload_n 0, 1) := by decide +kernel
theorem dX12_readsFactor_63 : decode cX12_readsFactor 63 = .ok (.getfield 193, 3) := by decide +kernel
theorem dX12_readsFactor_66 : decode cX12_readsFactor 66 = .ok (.invokevirtual 206, 3) := by decide +kernel
theorem dX12_readsFactor_69 : decode cX12_readsFactor 69 = .ok (.ireturn, 1) := by decide +kernel
theorem dX12_readsFactor_70 : decode cX12_readsFactor 70 = .ok (.aload_n 0, 1) := by decide +kernel
theorem dX12_readsFactor_71 : decode cX12_readsFactor 71 = .ok (.iconst 1, 1) := by decide +kernel
theorem dX12_readsFactor_72 : decode cX12_readsFactor 72 = .ok (.iload_n 1, 1) := by decide +kernel
theorem dX12_readsFactor_73 : decode cX12_readsFactor 73 = .ok (.invokevirtual 230, 3) := by decide +kernel
theorem dX12_readsFactor_76 : decode cX12_readsFactor 76 = .ok (.aload_n 0, 1) := by decide +kernel
theorem dX12_readsFactor_77 : decode cX12_readsFactor 77 = .ok (.aload_n 0, 1) := by decide +kernel
theorem dX12_readsFactor_78 : decode cX12_readsFactor 78 = .ok (.getfield 193, 3) := by decide +kernel
theorem dX12_readsFactor_81 : decode cX12_readsFactor 81 = .ok (.iconst 1, 1) := by decide +kernel
theorem dX12_readsFactor_82 : decode cX12_readsFactor 82 = .ok (.iadd, 1) := by decide +kernel
theorem dX12_readsFactor_83 : decode cX12_readsFactor 83 = .ok (.putfield 193, 3) := by decide +kernel
theorem dX12_readsFactor_86 : decode cX12_readsFactor 86 = .ok (.iconst 1, 1) := by decide +kernel
theorem dX12_readsFactor_87 : decode cX12_readsFactor 87 = .ok (.ireturn, 1) := by decide +kernel
theorem dX12_hasOpenSum_0 : decode cX12_hasOpenSum 0 = .ok (.iload_n 1, 1) := by decide +kernel
theorem dX12_hasOpenSum_1 : decode cX12_hasOpenSum 1 = .ok (.istore_n 2, 1) := by decide +kernel
theorem dX12_hasOpenSum_2 : decode cX12_hasOpenSum 2 = .ok (.iload_n 2, 1) := by decide +kernel
theorem dX12_hasOpenSum_3 : decode cX12_hasOpenSum 3 = .ok (.aload_n 0, 1) := by decide +kernel
theorem dX12_hasOpenSum_4 : decode cX12_hasOpenSum 4 = .ok (.getfield 224, 3) := by decide +kernel
theorem dX12_hasOpenSum_7 : decode cX12_hasOpenSum 7 = .ok (.if_icmp .ge 25, 3) := by decide +kernel
theorem dX12_hasOpenSum_10 : decode cX12_hasOpenSum 10 = .ok (.aload_n 0, 1) := by decide +kernel
theorem dX12_hasOpenSum_11 : decode cX12_hasOpenSum 11 = .ok (.getfield 65, 3) := by decide +kernel
theorem dX12_hasOpenSum_14 : decode cX12_hasOpenSum 14 = .ok (.iload_n 2, 1) := by decide +kernel
theorem dX12_hasOpenSum_15 : decode cX12_hasOpenSum 15 = .ok (.iaload, 1) := by decide +kernel
theorem dX12_hasOpenSum_16 : decode cX12_hasOpenSum 16 = .ok (.ldc 220, 2) := by decide +kernel
theorem dX12_hasOpenSum_18 : decode cX12_hasOpenSum 18 = .ok (.idiv, 1) := by decide +kernel
theorem dX12_hasOpenSum_19 : decode cX12_hasOpenSum 19 = .ok (.bipush 14, 2) := by decide +kernel
theorem dX12_hasOpenSum_21 : decode cX12_hasOpenSum 21 = .ok (.if_icmp .ne 5, 3) := by decide +kernel
theorem dX12_hasOpenSum_24 : decode cX12_hasOpenSum 24 = .ok (.iconst 1, 1) := by decide +kernel
theorem dX12_hasOpenSum_25 : decode cX12_hasOpenSum 25 = .ok (.ireturn, 1) := by decide +kernel
theorem dX12_hasOpenSum_26 : decode cX12_hasOpenSum 26 = .ok (.iinc 2 1, 3) := by decide +kernel
theorem dX12_hasOpenSum_29 : decode cX12_hasOpenSum 29 = .ok (.goto (-27), 3) := by decide +kernel
theorem dX12_hasOpenSum_32 : decode cX12_hasOpenSum 32 = .ok (.iconst 0, 1) := by decide +kernel
theorem dX12_hasOpenSum_33 : decode cX12_hasOpenSum 33 = .ok (.ireturn, 1) := by decide +kernel
theorem dX12_readsSum_0 : decode cX12_readsSum 0 = .ok (.aload_n 0, 1) := by decide +kernel
theorem dX12_readsSum_1 : decode cX12_readsSum 1 = .ok (.getfield 224, 3) := by decide +kernel
theorem dX12_readsSum_4 : decode cX12_readsSum 4 = .ok (.istore_n 1, 1) := by decide +kernel
theorem dX12_readsSum_5 : decode cX12_readsSum 5 = .ok (.aload_n 0, 1) := by decide +kernel
theorem dX12_readsSum_6 : decode cX12_readsSum 6 = .ok (.invokevirtual 244, 3) := by decide +kernel
theorem dX12_readsSum_9 : decode cX12_readsSum 9 = .ok (.ifCond .ne 5, 3) := by decide +kernel
theorem dX12_readsSum_12 : decode cX12_readsSum 12 = .ok (.iconst 0, 1) := by decide +kernel
theorem dX12_readsSum_13 : decode cX12_readsSum 13 = .ok (.ireturn, 1) := by decide +kernel
theorem dX12_readsSum_14 : decode cX12_readsSum 14 = .ok (.aload_n 0, 1) := by decide +kernel
theorem dX12_readsSum_15 : decode cX12_readsSum 15 = .ok (.invokevirtual 199, 3) := by decide +kernel
theorem dX12_readsSum_18 : decode cX12_readsSum 18 = .ok (.invokestatic 247, 3) := by decide +kernel
theorem dX12_readsSum_21 : decode cX12_readsSum 21 = .ok (.istore_n 2, 1) := by decide +kernel
theorem dX12_readsSum_22 : decode cX12_readsSum 22 = .ok (.iload_n 2, 1) := by decide +kernel
theorem dX12_readsSum_23 : decode cX12_readsSum 23 = .ok (.iconst (-1), 1) := by decide +kernel
theorem dX12_readsSum_24 : decode cX12_readsSum 24 = .ok (.if_icmp .eq 59, 3) := by decide +kernel
theorem dX12_readsSum_27 : decode cX12_readsSum 27 = .ok (.aload_n 0, 1) := by decide +kernel
theorem dX12_readsSum_28 : decode cX12_readsSum 28 = .ok (.iload_n 2, 1) := by decide +kernel
theorem dX12_readsSum_29 : decode cX12_readsSum 29 = .ok (.iconst 4, 1) := by decide +kernel
theorem dX12_readsSum_30 : decode cX12_readsSum 30 = .ok (.if_icmp .ge 7, 3) := by decide +kernel
theorem dX12_readsSum_33 : decode cX12_readsSum 33 = .ok (.iconst 1, 1) := by decide +kernel
theorem dX12_readsSum_34 : decode cX12_readsSum 34 = .ok (.goto 4, 3) := by decide +kernel
theorem dX12_readsSum_37 : decode cX12_readsSum 37 = .ok (.iconst 0, 1) := by decide +kernel
theorem dX12_readsSum_38 : decode cX12_readsSum 38 = .ok (.invokevirtual 250, 3) := by decide +kernel
theorem dX12_readsSum_41 : decode cX12_readsSum 41 = .ok (.aload_n 0, 1) := by decide +kernel
theorem dX12_readsSum_42 : decode cX12_readsSum 42 = .ok (.getfield 65, 3) := by decide +kernel
theorem dX12_readsSum_45 : decode cX12_readsSum 45 = .ok (.aload_n 0, 1) := by decide +kernel
theorem dX12_readsSum_46 : decode cX12_readsSum 46 = .ok (.getfield 224, 3) := by decide +kernel
theorem dX12_readsSum_49 : decode cX12_readsSum 49 = .ok (.ldc 220, 2) := by decide +kernel
theorem dX12_readsSum_51 : decode cX12_readsSum 51 = .ok (.iload_n 2, 1) := by decide +kernel
theorem dX12_readsSum_52 : decode cX12_readsSum 52 = .ok (.imul, 1) := by decide +kernel
theorem dX12_readsSum_53 : decode cX12_readsSum 53 = .ok (.iastore, 1) := by decide +kernel
theorem dX12_readsSum_54 : decode cX12_readsSum 54 = .ok (.aload_n 0, 1) := by decide +kernel
theorem dX12_readsSum_55 : decode cX12_readsSum 55 = .ok (.aload_n 0, 1) := by decide +kernel
theorem dX12_readsSum_56 : decode cX12_readsSum 56 = .ok (.getfield 224, 3) := by decide +kernel
theorem dX12_readsSum_59 : decode cX12_readsSum 59 = .ok (.iconst 1, 1) := by decide +kernel
theorem dX12_readsSum_60 : decode cX12_readsSum 60 = .ok (.iadd, 1) := by decide +kernel
theorem dX12_readsSum_61 : decode cX12_readsSum 61 = .ok (.putfield 224, 3) := by decide +kernel
theorem dX12_readsSum_64 : decode cX12_readsSum 64 = .ok (.aload_n 0, 1) := by decide +kernel
theorem dX12_readsSum_65 : decode cX12_readsSum 65 = .ok (.aload_n 0, 1) := by decide +kernel
theorem dX12_readsSum_66 : decode cX12_readsSum 66 = .ok (.getfield 193, 3) := by decide +kernel
theorem dX12_readsSum_69 : decode cX12_readsSum 69 = .ok (.iconst 1, 1) := by decide +kernel
theorem dX12_readsSum_70 : decode cX12_readsSum 70 = .ok (.iadd, 1) := by decide +kernel
theorem dX12_readsSum_71 : decode cX12_readsSum 71 = .ok (.putfield 193, 3) := by decide +kernel
theorem dX12_readsSum_74 : decode cX12_readsSum 74 = .ok (.aload_n 0, 1) := by decide +kernel
theorem dX12_readsSum_75 : decode cX12_readsSum 75 = .ok (.invokevirtual 244, 3) := by decide +kernel
theorem dX12_readsSum_78 : decode cX12_readsSum 78 = .ok (.ifCond .ne 85, 3) := by decide +kernel
theorem dX12_readsSum_81 : decode cX12_readsSum 81 = .ok (.iconst 0, 1) := by decide +kernel
theorem dX12_readsSum_82 : decode cX12_readsSum 82 = .ok (.ireturn, 1) := by decide +kernel
theorem dX12_readsSum_83 : decode cX12_readsSum 83 = .ok (.aload_n 0, 1) := by decide +kernel
theorem dX12_readsSum_84 : decode cX12_readsSum 84 = .ok (.invokevirtual 199, 3) := by decide +kernel
theorem dX12_readsSum_87 : decode cX12_readsSum 87 = .ok (.bipush 93, 2) := by decide +kernel
theorem dX12_readsSum_89 : decode cX12_readsSum 89 = .ok (.if_icmp .ne 49, 3) := by decide +kernel
theorem dX12_readsSum_92 : decode cX12_readsSum 92 = .ok (.aload_n 0, 1) := by decide +kernel
theorem dX12_readsSum_93 : decode cX12_readsSum 93 = .ok (.iload_n 1, 1) := by decide +kernel
theorem dX12_readsSum_94 : decode cX12_readsSum 94 = .ok (.invokevirtual 254, 3) := by decide +kernel
theorem dX12_readsSum_97 : decode cX12_readsSum 97 = .ok (.ifCond .eq 41, 3) := by decide +kernel
theorem dX12_readsSum_100 : decode cX12_readsSum 100 = .ok (.aload_n 0, 1) := by decide +kernel
theorem dX12_readsSum_101 : decode cX12_readsSum 101 = .ok (.iconst 1, 1) := by decide +kernel
theorem dX12_readsSum_102 : decode cX12_readsSum 102 = .ok (.invokevirtual 250, 3) := by decide +kernel
theorem dX12_readsSum_105 : decode cX12_readsSum 105 = .ok (.aload_n 0, 1) := by decide +kernel
theorem dX12_readsSum_106 : decode cX12_readsSum 106 = .ok (.aload_n 0, 1) := by decide +kernel
theorem dX12_readsSum_107 : decode cX12_readsSum 107 = .ok (.getfield 224, 3) := by decide +kernel
theorem dX12_readsSum_110 : decode cX12_readsSum 110 = .ok (.iconst 1, 1) := by decide +kernel
theorem dX12_readsSum_111 : decode cX12_readsSum 111 = .ok (.isub, 1) := by decide +kernel
theorem dX12_readsSum_112 : decode cX12_readsSum 112 = .ok (.putfield 224, 3) := by decide +kernel
theorem dX12_readsSum_115 : decode cX12_readsSum 115 = .ok (.aload_n 0, 1) := by decide +kernel
theorem dX12_readsSum_116 : decode cX12_readsSum 116 = .ok (.aload_n 0, 1) := by decide +kernel
theorem dX12_readsSum_117 : decode cX12_readsSum 117 = .ok (.getfield 221, 3) := by decide +kernel
theorem dX12_readsSum_120 : decode cX12_readsSum 120 = .ok (.iconst 1, 1) := by decide +kernel
theorem dX12_readsSum_121 : decode cX12_readsSum 121 = .ok (.isub, 1) := by decide +kernel
theorem dX12_readsSum_122 : decode cX12_readsSum 122 = .ok (.putfield 221, 3) := by decide +kernel
theorem dX12_readsSum_125 : decode cX12_readsSum 125 = .ok (.aload_n 0, 1) := by decide +kernel
theorem dX12_readsSum_126 : decode cX12_readsSum 126 = .ok (.aload_n 0, 1) := by decide +kernel
theorem dX12_readsSum_127 : decode cX12_readsSum 127 = .ok (.getfield 193, 3) := by decide +kernel
theorem dX12_readsSum_130 : decode cX12_readsSum 130 = .ok (.iconst 1, 1) := by decide +kernel
theorem dX12_readsSum_131 : decode cX12_readsSum 131 = .ok (.iadd, 1) := by decide +kernel
theorem dX12_readsSum_132 : decode cX12_readsSum 132 = .ok (.putfield 193, 3) := by decide +kernel
theorem dX12_readsSum_135 : decode cX12_readsSum 135 = .ok (.goto 28, 3) := by decide +kernel
theorem dX12_readsSum_138 : decode cX12_readsSum 138 = .ok (.aload_n 0, 1) := by decide +kernel
theorem dX12_readsSum_139 : decode cX12_readsSum 139 = .ok (.iload_n 1, 1) := by decide +kernel
theorem dX12_readsSum_140 : decode cX12_readsSum 140 = .ok (.invokevirtual 254, 3) := by decide +kernel
theorem dX12_readsSum_143 : decode cX12_readsSum 143 = .ok (.ifCond .eq 13, 3) := by decide +kernel
theorem dX12_readsSum_146 : decode cX12_readsSum 146 = .ok (.aload_n 0, 1) := by decide +kernel
theorem dX12_readsSum_147 : decode cX12_readsSum 147 = .ok (.iconst 1, 1) := by decide +kernel
theorem dX12_readsSum_148 : decode cX12_readsSum 148 = .ok (.aload_n 0, 1) := by decide +kernel
theorem dX12_readsSum_149 : decode cX12_readsSum 149 = .ok (.getfield 193, 3) := by decide +kernel
theorem dX12_readsSum_152 : decode cX12_readsSum 152 = .ok (.invokevirtual 206, 3) := by decide +kernel
theorem dX12_readsSum_155 : decode cX12_readsSum 155 = .ok (.ireturn, 1) := by decide +kernel
theorem dX12_readsSum_156 : decode cX12_readsSum 156 = .ok (.aload_n 0, 1) := by decide +kernel
theorem dX12_readsSum_157 : decode cX12_readsSum 157 = .ok (.iconst 1, 1) := by decide +kernel
theorem dX12_readsSum_158 : decode cX12_readsSum 158 = .ok (.invokevirtual 250, 3) := by decide +kernel
theorem dX12_readsSum_161 : decode cX12_readsSum 161 = .ok (.iconst 1, 1) := by decide +kernel
theorem dX12_readsSum_162 : decode cX12_readsSum 162 = .ok (.ireturn, 1) := by decide +kernel
theorem dX12_readsSum_163 : decode cX12_readsSum 163 = .ok (.goto (-149), 3) := by decide +kernel
theorem dX12_endsPiece_0 : decode cX12_endsPiece 0 = .ok (.aload_n 0, 1) := by decide +kernel
theorem dX12_endsPiece_1 : decode cX12_endsPiece 1 = .ok (.invokevirtual 227, 3) := by decide +kernel
theorem dX12_endsPiece_4 : decode cX12_endsPiece 4 = .ok (.bipush 10, 2) := by decide +kernel
theorem dX12_endsPiece_6 : decode cX12_endsPiece 6 = .ok (.if_icmp .ne 33, 3) := by decide +kernel
theorem dX12_endsPiece_9 : decode cX12_endsPiece 9 = .ok (.aload_n 0, 1) := by decide +kernel
theorem dX12_endsPiece_10 : decode cX12_endsPiece 10 = .ok (.bipush 10, 2) := by decide +kernel
theorem dX12_endsPiece_12 : decode cX12_endsPiece 12 = .ok (.iconst 0, 1) := by decide +kernel
theorem dX12_endsPiece_13 : decode cX12_endsPiece 13 = .ok (.invokevirtual 230, 3) := by decide +kernel
theorem dX12_endsPiece_16 : decode cX12_endsPiece 16 = .ok (.aload_n 0, 1) := by decide +kernel
theorem dX12_endsPiece_17 : decode cX12_endsPiece 17 = .ok (.aload_n 0, 1) := by decide +kernel
theorem dX12_endsPiece_18 : decode cX12_endsPiece 18 = .ok (.getfield 224, 3) := by decide +kernel
theorem dX12_endsPiece_21 : decode cX12_endsPiece 21 = .ok (.iconst 1, 1) := by decide +kernel
theorem dX12_endsPiece_22 : decode cX12_endsPiece 22 = .ok (.isub, 1) := by decide +kernel
theorem dX12_endsPiece_23 : decode cX12_endsPiece 23 = .ok (.putfield 224, 3) := by decide +kernel
theorem dX12_endsPiece_26 : decode cX12_endsPiece 26 = .ok (.aload_n 0, 1) := by decide +kernel
theorem dX12_endsPiece_27 : decode cX12_endsPiece 27 = .ok (.aload_n 0, 1) := by decide +kernel
theorem dX12_endsPiece_28 : decode cX12_endsPiece 28 = .ok (.getfield 221, 3) := by decide +kernel
theorem dX12_endsPiece_31 : decode cX12_endsPiece 31 = .ok (.iconst 1, 1) := by decide +kernel
theorem dX12_endsPiece_32 : decode cX12_endsPiece 32 = .ok (.isub, 1) := by decide +kernel
theorem dX12_endsPiece_33 : decode cX12_endsPiece 33 = .ok (.putfield 221, 3) := by decide +kernel
theorem dX12_endsPiece_36 : decode cX12_endsPiece 36 = .ok (.goto (-36), 3) := by decide +kernel
theorem dX12_endsPiece_39 : decode cX12_endsPiece 39 = .ok (.return_, 1) := by decide +kernel
theorem dX12_lands_0 : decode cX12_lands 0 = .ok (.aload_n 0, 1) := by decide +kernel
theorem dX12_lands_1 : decode cX12_lands 1 = .ok (.invokevirtual 227, 3) := by decide +kernel
theorem dX12_lands_4 : decode cX12_lands 4 = .ok (.bipush 11, 2) := by decide +kernel
theorem dX12_lands_6 : decode cX12_lands 6 = .ok (.if_icmp .eq 16, 3) := by decide +kernel
theorem dX12_lands_9 : decode cX12_lands 9 = .ok (.iload_n 1, 1) := by decide +kernel
theorem dX12_lands_10 : decode cX12_lands 10 = .ok (.ifCond .eq 63, 3) := by decide +kernel
theorem dX12_lands_13 : decode cX12_lands 13 = .ok (.aload_n 0, 1) := by decide +kernel
theorem dX12_lands_14 : decode cX12_lands 14 = .ok (.invokevirtual 227, 3) := by decide +kernel
theorem dX12_lands_17 : decode cX12_lands 17 = .ok (.bipush 12, 2) := by decide +kernel
theorem dX12_lands_19 : decode cX12_lands 19 = .ok (.if_icmp .ne 54, 3) := by decide +kernel
theorem dX12_lands_22 : decode cX12_lands 22 = .ok (.aload_n 0, 1) := by decide +kernel
theorem dX12_lands_23 : decode cX12_lands 23 = .ok (.getfield 65, 3) := by decide +kernel
theorem dX12_lands_26 : decode cX12_lands 26 = .ok (.aload_n 0, 1) := by decide +kernel
theorem dX12_lands_27 : decode cX12_lands 27 = .ok (.getfield 224, 3) := by decide +kernel
theorem dX12_lands_30 : decode cX12_lands 30 = .ok (.iconst 1, 1) := by decide +kernel
theorem dX12_lands_31 : decode cX12_lands 31 = .ok (.isub, 1) := by decide +kernel
theorem dX12_lands_32 : decode cX12_lands 32 = .ok (.iaload, 1) := by decide +kernel
theorem dX12_lands_33 : decode cX12_lands 33 = .ok (.ldc 220, 2) := by decide +kernel
theorem dX12_lands_35 : decode cX12_lands 35 = .ok (.irem, 1) := by decide +kernel
theorem dX12_lands_36 : decode cX12_lands 36 = .ok (.istore_n 2, 1) := by decide +kernel
theorem dX12_lands_37 : decode cX12_lands 37 = .ok (.aload_n 0, 1) := by decide +kernel
theorem dX12_lands_38 : decode cX12_lands 38 = .ok (.getfield 62, 3) := by decide +kernel
theorem dX12_lands_41 : decode cX12_lands 41 = .ok (.iload_n 2, 1) := by decide +kernel
theorem dX12_lands_42 : decode cX12_lands 42 = .ok (.ldc 220, 2) := by decide +kernel
theorem dX12_lands_44 : decode cX12_lands 44 = .ok (.aload_n 0, 1) := by decide +kernel
theorem dX12_lands_45 : decode cX12_lands 45 = .ok (.getfield 62, 3) := by decide +kernel
theorem dX12_lands_48 : decode cX12_lands 48 = .ok (.iload_n 2, 1) := by decide +kernel
theorem dX12_lands_49 : decode cX12_lands 49 = .ok (.iaload, 1) := by decide +kernel
theorem dX12_lands_50 : decode cX12_lands 50 = .ok (.ldc 220, 2) := by decide +kernel
theorem dX12_lands_52 : decode cX12_lands 52 = .ok (.idiv, 1) := by decide +kernel
theorem dX12_lands_53 : decode cX12_lands 53 = .ok (.imul, 1) := by decide +kernel
theorem dX12_lands_54 : decode cX12_lands 54 = .ok (.aload_n 0, 1) := by decide +kernel
theorem dX12_lands_55 : decode cX12_lands 55 = .ok (.getfield 217, 3) := by decide +kernel
theorem dX12_lands_58 : decode cX12_lands 58 = .ok (.iadd, 1) := by decide +kernel
theorem dX12_lands_59 : decode cX12_lands 59 = .ok (.iastore, 1) := by decide +kernel
theorem dX12_lands_60 : decode cX12_lands 60 = .ok (.aload_n 0, 1) := by decide +kernel
theorem dX12_lands_61 : decode cX12_lands 61 = .ok (.aload_n 0, 1) := by decide +kernel
theorem dX12_lands_62 : decode cX12_lands 62 = .ok (.getfield 224, 3) := by decide +kernel
theorem dX12_lands_65 : decode cX12_lands 65 = .ok (.iconst 1, 1) := by decide +kernel
theorem dX12_lands_66 : decode cX12_lands 66 = .ok (.isub, 1) := by decide +kernel
theorem dX12_lands_67 : decode cX12_lands 67 = .ok (.putfield 224, 3) := by decide +kernel
theorem dX12_lands_70 : decode cX12_lands 70 = .ok (.goto (-70), 3) := by decide +kernel
theorem dX12_lands_73 : decode cX12_lands 73 = .ok (.return_, 1) := by decide +kernel
theorem dX12_jumps_0 : decode cX12_jumps 0 = .ok (.aload_n 0, 1) := by decide +kernel
theorem dX12_jumps_1 : decode cX12_jumps 1 = .ok (.getfield 65, 3) := by decide +kernel
theorem dX12_jumps_4 : decode cX12_jumps 4 = .ok (.aload_n 0, 1) := by decide +kernel
theorem dX12_jumps_5 : decode cX12_jumps 5 = .ok (.getfield 224, 3) := by decide +kernel
theorem dX12_jumps_8 : decode cX12_jumps 8 = .ok (.ldc 220, 2) := by decide +kernel
theorem dX12_jumps_10 : decode cX12_jumps 10 = .ok (.iload_n 1, 1) := by decide +kernel
theorem dX12_jumps_11 : decode cX12_jumps 11 = .ok (.imul, 1) := by decide +kernel
theorem dX12_jumps_12 : decode cX12_jumps 12 = .ok (.aload_n 0, 1) := by decide +kernel
theorem dX12_jumps_13 : decode cX12_jumps 13 = .ok (.getfield 217, 3) := by decide +kernel
theorem dX12_jumps_16 : decode cX12_jumps 16 = .ok (.iadd, 1) := by decide +kernel
theorem dX12_jumps_17 : decode cX12_jumps 17 = .ok (.iastore, 1) := by decide +kernel
theorem dX12_jumps_18 : decode cX12_jumps 18 = .ok (.aload_n 0, 1) := by decide +kernel
theorem dX12_jumps_19 : decode cX12_jumps 19 = .ok (.aload_n 0, 1) := by decide +kernel
theorem dX12_jumps_20 : decode cX12_jumps 20 = .ok (.getfield 224, 3) := by decide +kernel
theorem dX12_jumps_23 : decode cX12_jumps 23 = .ok (.iconst 1, 1) := by decide +kernel
theorem dX12_jumps_24 : decode cX12_jumps 24 = .ok (.iadd, 1) := by decide +kernel
theorem dX12_jumps_25 : decode cX12_jumps 25 = .ok (.putfield 224, 3) := by decide +kernel
theorem dX12_jumps_28 : decode cX12_jumps 28 = .ok (.aload_n 0, 1) := by decide +kernel
theorem dX12_jumps_29 : decode cX12_jumps 29 = .ok (.iload_n 1, 1) := by decide +kernel
theorem dX12_jumps_30 : decode cX12_jumps 30 = .ok (.iconst 0, 1) := by decide +kernel
theorem dX12_jumps_31 : decode cX12_jumps 31 = .ok (.invokevirtual 230, 3) := by decide +kernel
theorem dX12_jumps_34 : decode cX12_jumps 34 = .ok (.aload_n 0, 1) := by decide +kernel
theorem dX12_jumps_35 : decode cX12_jumps 35 = .ok (.aload_n 0, 1) := by decide +kernel
theorem dX12_jumps_36 : decode cX12_jumps 36 = .ok (.getfield 193, 3) := by decide +kernel
theorem dX12_jumps_39 : decode cX12_jumps 39 = .ok (.iconst 1, 1) := by decide +kernel
theorem dX12_jumps_40 : decode cX12_jumps 40 = .ok (.iadd, 1) := by decide +kernel
theorem dX12_jumps_41 : decode cX12_jumps 41 = .ok (.putfield 193, 3) := by decide +kernel
theorem dX12_jumps_44 : decode cX12_jumps 44 = .ok (.return_, 1) := by decide +kernel
theorem dX12_readsCompared_0 : decode cX12_readsCompared 0 = .ok (.aload_n 0, 1) := by decide +kernel
theorem dX12_readsCompared_1 : decode cX12_readsCompared 1 = .ok (.invokevirtual 257, 3) := by decide +kernel
theorem dX12_readsCompared_4 : decode cX12_readsCompared 4 = .ok (.ifCond .ne 5, 3) := by decide +kernel
theorem dX12_readsCompared_7 : decode cX12_readsCompared 7 = .ok (.iconst 0, 1) := by decide +kernel
theorem dX12_readsCompared_8 : decode cX12_readsCompared 8 = .ok (.ireturn, 1) := by decide +kernel
theorem dX12_readsCompared_9 : decode cX12_readsCompared 9 = .ok (.aload_n 0, 1) := by decide +kernel
theorem dX12_readsCompared_10 : decode cX12_readsCompared 10 = .ok (.invokevirtual 199, 3) := by decide +kernel
theorem dX12_readsCompared_13 : decode cX12_readsCompared 13 = .ok (.bipush 60, 2) := by decide +kernel
theorem dX12_readsCompared_15 : decode cX12_readsCompared 15 = .ok (.if_icmp .ne 8, 3) := by decide +kernel
theorem dX12_readsCompared_18 : decode cX12_readsCompared 18 = .ok (.bipush 7, 2) := by decide +kernel
theorem dX12_readsCompared_20 : decode cX12_readsCompared 20 = .ok (.goto 32, 3) := by decide +kernel
theorem dX12_readsCompared_23 : decode cX12_readsCompared 23 = .ok (.aload_n 0, 1) := by decide +kernel
theorem dX12_readsCompared_24 : decode cX12_readsCompared 24 = .ok (.invokevirtual 199, 3) := by decide +kernel
theorem dX12_readsCompared_27 : decode cX12_readsCompared 27 = .ok (.bipush 62, 2) := by decide +kernel
theorem dX12_readsCompared_29 : decode cX12_readsCompared 29 = .ok (.if_icmp .ne 8, 3) := by decide +kernel
theorem dX12_readsCompared_32 : decode cX12_readsCompared 32 = .ok (.bipush 8, 2) := by decide +kernel
theorem dX12_readsCompared_34 : decode cX12_readsCompared 34 = .ok (.goto 18, 3) := by decide +kernel
theorem dX12_readsCompared_37 : decode cX12_readsCompared 37 = .ok (.aload_n 0, 1) := by decide +kernel
theorem dX12_readsCompared_38 : decode cX12_readsCompared 38 = .ok (.invokevirtual 199, 3) := by decide +kernel
theorem dX12_readsCompared_41 : decode cX12_readsCompared 41 = .ok (.bipush 61, 2) := by decide +kernel
theorem dX12_readsCompared_43 : decode cX12_readsCompared 43 = .ok (.if_icmp .ne 8, 3) := by decide +kernel
theorem dX12_readsCompared_46 : decode cX12_readsCompared 46 = .ok (.bipush 9, 2) := by decide +kernel
theorem dX12_readsCompared_48 : decode cX12_readsCompared 48 = .ok (.goto 4, 3) := by decide +kernel
theorem dX12_readsCompared_51 : decode cX12_readsCompared 51 = .ok (.iconst (-1), 1) := by decide +kernel
theorem dX12_readsCompared_52 : decode cX12_readsCompared 52 = .ok (.istore_n 1, 1) := by decide +kernel
theorem dX12_readsCompared_53 : decode cX12_readsCompared 53 = .ok (.iload_n 1, 1) := by decide +kernel
theorem dX12_readsCompared_54 : decode cX12_readsCompared 54 = .ok (.iconst (-1), 1) := by decide +kernel
theorem dX12_readsCompared_55 : decode cX12_readsCompared 55 = .ok (.if_icmp .ne 13, 3) := by decide +kernel
theorem dX12_readsCompared_58 : decode cX12_readsCompared 58 = .ok (.aload_n 0, 1) := by decide +kernel
theorem dX12_readsCompared_59 : decode cX12_readsCompared 59 = .ok (.iconst 1, 1) := by decide +kernel
theorem dX12_readsCompared_60 : decode cX12_readsCompared 60 = .ok (.aload_n 0, 1) := by decide +kernel
theorem dX12_readsCompared_61 : decode cX12_readsCompared 61 = .ok (.getfield 193, 3) := by decide +kernel
theorem dX12_readsCompared_64 : decode cX12_readsCompared 64 = .ok (.invokevirtual 206, 3) := by decide +kernel
theorem dX12_readsCompared_67 : decode cX12_readsCompared 67 = .ok (.ireturn, 1) := by decide +kernel
theorem dX12_readsCompared_68 : decode cX12_readsCompared 68 = .ok (.aload_n 0, 1) := by decide +kernel
theorem dX12_readsCompared_69 : decode cX12_readsCompared 69 = .ok (.aload_n 0, 1) := by decide +kernel
theorem dX12_readsCompared_70 : decode cX12_readsCompared 70 = .ok (.getfield 193, 3) := by decide +kernel
theorem dX12_readsCompared_73 : decode cX12_readsCompared 73 = .ok (.iconst 1, 1) := by decide +kernel
theorem dX12_readsCompared_74 : decode cX12_readsCompared 74 = .ok (.iadd, 1) := by decide +kernel
theorem dX12_readsCompared_75 : decode cX12_readsCompared 75 = .ok (.putfield 193, 3) := by decide +kernel
theorem dX12_readsCompared_78 : decode cX12_readsCompared 78 = .ok (.aload_n 0, 1) := by decide +kernel
theorem dX12_readsCompared_79 : decode cX12_readsCompared 79 = .ok (.invokevirtual 257, 3) := by decide +kernel
theorem dX12_readsCompared_82 : decode cX12_readsCompared 82 = .ok (.ifCond .ne 5, 3) := by decide +kernel
theorem dX12_readsCompared_85 : decode cX12_readsCompared 85 = .ok (.iconst 0, 1) := by decide +kernel
theorem dX12_readsCompared_86 : decode cX12_readsCompared 86 = .ok (.ireturn, 1) := by decide +kernel
theorem dX12_readsCompared_87 : decode cX12_readsCompared 87 = .ok (.aload_n 0, 1) := by decide +kernel
theorem dX12_readsCompared_88 : decode cX12_readsCompared 88 = .ok (.iload_n 1, 1) := by decide +kernel
theorem dX12_readsCompared_89 : decode cX12_readsCompared 89 = .ok (.iconst 0, 1) := by decide +kernel
theorem dX12_readsCompared_90 : decode cX12_readsCompared 90 = .ok (.invokevirtual 230, 3) := by decide +kernel
theorem dX12_readsCompared_93 : decode cX12_readsCompared 93 = .ok (.aload_n 0, 1) := by decide +kernel
theorem dX12_readsCompared_94 : decode cX12_readsCompared 94 = .ok (.invokevirtual 260, 3) := by decide +kernel
theorem dX12_readsCompared_97 : decode cX12_readsCompared 97 = .ok (.iconst 1, 1) := by decide +kernel
theorem dX12_readsCompared_98 : decode cX12_readsCompared 98 = .ok (.ireturn, 1) := by decide +kernel
theorem dX12_readsCondition_0 : decode cX12_readsCondition 0 = .ok (.aload_n 0, 1) := by decide +kernel
theorem dX12_readsCondition_1 : decode cX12_readsCondition 1 = .ok (.invokevirtual 199, 3) := by decide +kernel
theorem dX12_readsCondition_4 : decode cX12_readsCondition 4 = .ok (.bipush 40, 2) := by decide +kernel
theorem dX12_readsCondition_6 : decode cX12_readsCondition 6 = .ok (.if_icmp .eq 13, 3) := by decide +kernel
theorem dX12_readsCondition_9 : decode cX12_readsCondition 9 = .ok (.aload_n 0, 1) := by decide +kernel
theorem dX12_readsCondition_10 : decode cX12_readsCondition 10 = .ok (.iconst 1, 1) := by decide +kernel
theorem dX12_readsCondition_11 : decode cX12_readsCondition 11 = .ok (.aload_n 0, 1) := by decide +kernel
theorem dX12_readsCondition_12 : decode cX12_readsCondition 12 = .ok (.getfield 193, 3) := by decide +kernel
theorem dX12_readsCondition_15 : decode cX12_readsCondition 15 = .ok (.invokevirtual 206, 3) := by decide +kernel
theorem dX12_readsCondition_18 : decode cX12_readsCondition 18 = .ok (.ireturn, 1) := by decide +kernel
theorem dX12_readsCondition_19 : decode cX12_readsCondition 19 = .ok (.aload_n 0, 1) := by decide +kernel
theorem dX12_readsCondition_20 : decode cX12_readsCondition 20 = .ok (.iconst 0, 1) := by decide +kernel
theorem dX12_readsCondition_21 : decode cX12_readsCondition 21 = .ok (.putfield 221, 3) := by decide +kernel
theorem dX12_readsCondition_24 : decode cX12_readsCondition 24 = .ok (.aload_n 0, 1) := by decide +kernel
theorem dX12_readsCondition_25 : decode cX12_readsCondition 25 = .ok (.iconst 0, 1) := by decide +kernel
theorem dX12_readsCondition_26 : decode cX12_readsCondition 26 = .ok (.putfield 224, 3) := by decide +kernel
theorem dX12_readsCondition_29 : decode cX12_readsCondition 29 = .ok (.aload_n 0, 1) := by decide +kernel
theorem dX12_readsCondition_30 : decode cX12_readsCondition 30 = .ok (.bipush 13, 2) := by decide +kernel
theorem dX12_readsCondition_32 : decode cX12_readsCondition 32 = .ok (.invokevirtual 234, 3) := by decide +kernel
theorem dX12_readsCondition_35 : decode cX12_readsCondition 35 = .ok (.ifCond .ne 5, 3) := by decide +kernel
theorem dX12_readsCondition_38 : decode cX12_readsCondition 38 = .ok (.iconst 0, 1) := by decide +kernel
theorem dX12_readsCondition_39 : decode cX12_readsCondition 39 = .ok (.ireturn, 1) := by decide +kernel
theorem dX12_readsCondition_40 : decode cX12_readsCondition 40 = .ok (.aload_n 0, 1) := by decide +kernel
theorem dX12_readsCondition_41 : decode cX12_readsCondition 41 = .ok (.invokevirtual 199, 3) := by decide +kernel
theorem dX12_readsCondition_44 : decode cX12_readsCondition 44 = .ok (.bipush 33, 2) := by decide +kernel
theorem dX12_readsCondition_46 : decode cX12_readsCondition 46 = .ok (.if_icmp .eq 12, 3) := by decide +kernel
theorem dX12_readsCondition_49 : decode cX12_readsCondition 49 = .ok (.aload_n 0, 1) := by decide +kernel
theorem dX12_readsCondition_50 : decode cX12_readsCondition 50 = .ok (.invokevirtual 199, 3) := by decide +kernel
theorem dX12_readsCondition_53 : decode cX12_readsCondition 53 = .ok (.bipush 40, 2) := by decide +kernel
theorem dX12_readsCondition_55 : decode cX12_readsCondition 55 = .ok (.if_icmp .ne 28, 3) := by decide +kernel
theorem dX12_readsCondition_58 : decode cX12_readsCondition 58 = .ok (.aload_n 0, 1) := by decide +kernel
theorem dX12_readsCondition_59 : decode cX12_readsCondition 59 = .ok (.aload_n 0, 1) := by decide +kernel
theorem dX12_readsCondition_60 : decode cX12_readsCondition 60 = .ok (.invokevirtual 199, 3) := by decide +kernel
theorem dX12_readsCondition_63 : decode cX12_readsCondition 63 = .ok (.bipush 33, 2) := by decide +kernel
theorem dX12_readsCondition_65 : decode cX12_readsCondition 65 = .ok (.if_icmp .ne 8, 3) := by decide +kernel
theorem dX12_readsCondition_68 : decode cX12_readsCondition 68 = .ok (.bipush 10, 2) := by decide +kernel
theorem dX12_readsCondition_70 : decode cX12_readsCondition 70 = .ok (.goto 5, 3) := by decide +kernel
theorem dX12_readsCondition_73 : decode cX12_readsCondition 73 = .ok (.bipush 13, 2) := by decide +kernel
theorem dX12_readsCondition_75 : decode cX12_readsCondition 75 = .ok (.invokevirtual 234, 3) := by decide +kernel
theorem dX12_readsCondition_78 : decode cX12_readsCondition 78 = .ok (.ifCond .ne (-38), 3) := by decide +kernel
theorem dX12_readsCondition_81 : decode cX12_readsCondition 81 = .ok (.iconst 0, 1) := by decide +kernel
theorem dX12_readsCondition_82 : decode cX12_readsCondition 82 = .ok (.ireturn, 1) := by decide +kernel
theorem dX12_readsCondition_83 : decode cX12_readsCondition 83 = .ok (.aload_n 0, 1) := by decide +kernel
theorem dX12_readsCondition_84 : decode cX12_readsCondition 84 = .ok (.invokevirtual 263, 3) := by decide +kernel
theorem dX12_readsCondition_87 : decode cX12_readsCondition 87 = .ok (.ifCond .ne 5, 3) := by decide +kernel
theorem dX12_readsCondition_90 : decode cX12_readsCondition 90 = .ok (.iconst 0, 1) := by decide +kernel
theorem dX12_readsCondition_91 : decode cX12_readsCondition 91 = .ok (.ireturn, 1) := by decide +kernel
theorem dX12_readsCondition_92 : decode cX12_readsCondition 92 = .ok (.aload_n 0, 1) := by decide +kernel
theorem dX12_readsCondition_93 : decode cX12_readsCondition 93 = .ok (.invokevirtual 199, 3) := by decide +kernel
theorem dX12_readsCondition_96 : decode cX12_readsCondition 96 = .ok (.bipush 41, 2) := by decide +kernel
theorem dX12_readsCondition_98 : decode cX12_readsCondition 98 = .ok (.if_icmp .ne 54, 3) := by decide +kernel
theorem dX12_readsCondition_101 : decode cX12_readsCondition 101 = .ok (.aload_n 0, 1) := by decide +kernel
theorem dX12_readsCondition_102 : decode cX12_readsCondition 102 = .ok (.iconst 1, 1) := by decide +kernel
theorem dX12_readsCondition_103 : decode cX12_readsCondition 103 = .ok (.invokevirtual 266, 3) := by decide +kernel
theorem dX12_readsCondition_106 : decode cX12_readsCondition 106 = .ok (.aload_n 0, 1) := by decide +kernel
theorem dX12_readsCondition_107 : decode cX12_readsCondition 107 = .ok (.aload_n 0, 1) := by decide +kernel
theorem dX12_readsCondition_108 : decode cX12_readsCondition 108 = .ok (.getfield 224, 3) := by decide +kernel
theorem dX12_readsCondition_111 : decode cX12_readsCondition 111 = .ok (.iconst 1, 1) := by decide +kernel
theorem dX12_readsCondition_112 : decode cX12_readsCondition 112 = .ok (.isub, 1) := by decide +kernel
theorem dX12_readsCondition_113 : decode cX12_readsCondition 113 = .ok (.putfield 224, 3) := by decide +kernel
theorem dX12_readsCondition_116 : decode cX12_readsCondition 116 = .ok (.aload_n 0, 1) := by decide +kernel
theorem dX12_readsCondition_117 : decode cX12_readsCondition 117 = .ok (.aload_n 0, 1) := by decide +kernel
theorem dX12_readsCondition_118 : decode cX12_readsCondition 118 = .ok (.getfield 221, 3) := by decide +kernel
theorem dX12_readsCondition_121 : decode cX12_readsCondition 121 = .ok (.iconst 1, 1) := by decide +kernel
theorem dX12_readsCondition_122 : decode cX12_readsCondition 122 = .ok (.isub, 1) := by decide +kernel
theorem dX12_readsCondition_123 : decode cX12_readsCondition 123 = .ok (.putfield 221, 3) := by decide +kernel
theorem dX12_readsCondition_126 : decode cX12_readsCondition 126 = .ok (.aload_n 0, 1) := by decide +kernel
theorem dX12_readsCondition_127 : decode cX12_readsCondition 127 = .ok (.aload_n 0, 1) := by decide +kernel
theorem dX12_readsCondition_128 : decode cX12_readsCondition 128 = .ok (.getfield 193, 3) := by decide +kernel
theorem dX12_readsCondition_131 : decode cX12_readsCondition 131 = .ok (.iconst 1, 1) := by decide +kernel
theorem dX12_readsCondition_132 : decode cX12_readsCondition 132 = .ok (.iadd, 1) := by decide +kernel
theorem dX12_readsCondition_133 : decode cX12_readsCondition 133 = .ok (.putfield 193, 3) := by decide +kernel
theorem dX12_readsCondition_136 : decode cX12_readsCondition 136 = .ok (.aload_n 0, 1) := by decide +kernel
theorem dX12_readsCondition_137 : decode cX12_readsCondition 137 = .ok (.getfield 224, 3) := by decide +kernel
theorem dX12_readsCondition_140 : decode cX12_readsCondition 140 = .ok (.ifCond .ne 5, 3) := by decide +kernel
theorem dX12_readsCondition_143 : decode cX12_readsCondition 143 = .ok (.iconst 1, 1) := by decide +kernel
theorem dX12_readsCondition_144 : decode cX12_readsCondition 144 = .ok (.ireturn, 1) := by decide +kernel
theorem dX12_readsCondition_145 : decode cX12_readsCondition 145 = .ok (.aload_n 0, 1) := by decide +kernel
theorem dX12_readsCondition_146 : decode cX12_readsCondition 146 = .ok (.invokevirtual 260, 3) := by decide +kernel
theorem dX12_readsCondition_149 : decode cX12_readsCondition 149 = .ok (.goto (-57), 3) := by decide +kernel
theorem dX12_readsCondition_152 : decode cX12_readsCondition 152 = .ok (.aload_n 0, 1) := by decide +kernel
theorem dX12_readsCondition_153 : decode cX12_readsCondition 153 = .ok (.invokevirtual 199, 3) := by decide +kernel
theorem dX12_readsCondition_156 : decode cX12_readsCondition 156 = .ok (.bipush 38, 2) := by decide +kernel
theorem dX12_readsCondition_158 : decode cX12_readsCondition 158 = .ok (.if_icmp .eq 22, 3) := by decide +kernel
theorem dX12_readsCondition_161 : decode cX12_readsCondition 161 = .ok (.aload_n 0, 1) := by decide +kernel
theorem dX12_readsCondition_162 : decode cX12_readsCondition 162 = .ok (.invokevirtual 199, 3) := by decide +kernel
theorem dX12_readsCondition_165 : decode cX12_readsCondition 165 = .ok (.bipush 124, 2) := by decide +kernel
theorem dX12_readsCondition_167 : decode cX12_readsCondition 167 = .ok (.if_icmp .eq 13, 3) := by decide +kernel
theorem dX12_readsCondition_170 : decode cX12_readsCondition 170 = .ok (.aload_n 0, 1) := by decide +kernel
theorem dX12_readsCondition_171 : decode cX12_readsCondition 171 = .ok (.iconst 1, 1) := by decide +kernel
theorem dX12_readsCondition_172 : decode cX12_readsCondition 172 = .ok (.aload_n 0, 1) := by decide +kernel
theorem dX12_readsCondition_173 : decode cX12_readsCondition 173 = .ok (.getfield 193, 3) := by decide +kernel
theorem dX12_readsCondition_176 : decode cX12_readsCondition 176 = .ok (.invokevirtual 206, 3) := by decide +kernel
theorem dX12_readsCondition_179 : decode cX12_readsCondition 179 = .ok (.ireturn, 1) := by decide +kernel
theorem dX12_readsCondition_180 : decode cX12_readsCondition 180 = .ok (.aload_n 0, 1) := by decide +kernel
theorem dX12_readsCondition_181 : decode cX12_readsCondition 181 = .ok (.aload_n 0, 1) := by decide +kernel
theorem dX12_readsCondition_182 : decode cX12_readsCondition 182 = .ok (.invokevirtual 199, 3) := by decide +kernel
theorem dX12_readsCondition_185 : decode cX12_readsCondition 185 = .ok (.bipush 124, 2) := by decide +kernel
theorem dX12_readsCondition_187 : decode cX12_readsCondition 187 = .ok (.if_icmp .ne 7, 3) := by decide +kernel
theorem dX12_readsCondition_190 : decode cX12_readsCondition 190 = .ok (.iconst 1, 1) := by decide +kernel
theorem dX12_readsCondition_191 : decode cX12_readsCondition 191 = .ok (.goto 4, 3) := by decide +kernel
theorem dX12_readsCondition_194 : decode cX12_readsCondition 194 = .ok (.iconst 0, 1) := by decide +kernel
theorem dX12_readsCondition_195 : decode cX12_readsCondition 195 = .ok (.invokevirtual 266, 3) := by decide +kernel
theorem dX12_readsCondition_198 : decode cX12_readsCondition 198 = .ok (.aload_n 0, 1) := by decide +kernel
theorem dX12_readsCondition_199 : decode cX12_readsCondition 199 = .ok (.aload_n 0, 1) := by decide +kernel
theorem dX12_readsCondition_200 : decode cX12_readsCondition 200 = .ok (.invokevirtual 199, 3) := by decide +kernel
theorem dX12_readsCondition_203 : decode cX12_readsCondition 203 = .ok (.bipush 38, 2) := by decide +kernel
theorem dX12_readsCondition_205 : decode cX12_readsCondition 205 = .ok (.if_icmp .ne 8, 3) := by decide +kernel
theorem dX12_readsCondition_208 : decode cX12_readsCondition 208 = .ok (.bipush 11, 2) := by decide +kernel
theorem dX12_readsCondition_210 : decode cX12_readsCondition 210 = .ok (.goto 5, 3) := by decide +kernel
theorem dX12_readsCondition_213 : decode cX12_readsCondition 213 = .ok (.bipush 12, 2) := by decide +kernel
theorem dX12_readsCondition_215 : decode cX12_readsCondition 215 = .ok (.invokevirtual 269, 3) := by decide +kernel
theorem dX12_readsCondition_218 : decode cX12_readsCondition 218 = .ok (.goto (-178), 3) := by decide +kernel
theorem dX12_readsClause_0 : decode cX12_readsClause 0 = .ok (.aload_n 0, 1) := by decide +kernel
theorem dX12_readsClause_1 : decode cX12_readsClause 1 = .ok (.invokevirtual 199, 3) := by decide +kernel
theorem dX12_readsClause_4 : decode cX12_readsClause 4 = .ok (.istore_n 2, 1) := by decide +kernel
theorem dX12_readsClause_5 : decode cX12_readsClause 5 = .ok (.iload_n 1, 1) := by decide +kernel
theorem dX12_readsClause_6 : decode cX12_readsClause 6 = .ok (.ifCond .eq 24, 3) := by decide +kernel
theorem dX12_readsClause_9 : decode cX12_readsClause 9 = .ok (.iload_n 2, 1) := by decide +kernel
theorem dX12_readsClause_10 : decode cX12_readsClause 10 = .ok (.bipush 103, 2) := by decide +kernel
theorem dX12_readsClause_12 : decode cX12_readsClause 12 = .ok (.if_icmp .eq 40, 3) := by decide +kernel
theorem dX12_readsClause_15 : decode cX12_readsClause 15 = .ok (.iload_n 2, 1) := by decide +kernel
theorem dX12_readsClause_16 : decode cX12_readsClause 16 = .ok (.bipush 107, 2) := by decide +kernel
theorem dX12_readsClause_18 : decode cX12_readsClause 18 = .ok (.if_icmp .eq 34, 3) := by decide +kernel
theorem dX12_readsClause_21 : decode cX12_readsClause 21 = .ok (.iload_n 2, 1) := by decide +kernel
theorem dX12_readsClause_22 : decode cX12_readsClause 22 = .ok (.bipush 98, 2) := by decide +kernel
theorem dX12_readsClause_24 : decode cX12_readsClause 24 = .ok (.if_icmp .eq 28, 3) := by decide +kernel
theorem dX12_readsClause_27 : decode cX12_readsClause 27 = .ok (.goto 15, 3) := by decide +kernel
theorem dX12_readsClause_30 : decode cX12_readsClause 30 = .ok (.iload_n 2, 1) := by decide +kernel
theorem dX12_readsClause_31 : decode cX12_readsClause 31 = .ok (.bipush 97, 2) := by decide +kernel
theorem dX12_readsClause_33 : decode cX12_readsClause 33 = .ok (.if_icmp .eq 19, 3) := by decide +kernel
theorem dX12_readsClause_36 : decode cX12_readsClause 36 = .ok (.iload_n 2, 1) := by decide +kernel
theorem dX12_readsClause_37 : decode cX12_readsClause 37 = .ok (.bipush 119, 2) := by decide +kernel
theorem dX12_readsClause_39 : decode cX12_readsClause 39 = .ok (.if_icmp .eq 13, 3) := by decide +kernel
theorem dX12_readsClause_42 : decode cX12_readsClause 42 = .ok (.aload_n 0, 1) := by decide +kernel
theorem dX12_readsClause_43 : decode cX12_readsClause 43 = .ok (.iconst 1, 1) := by decide +kernel
theorem dX12_readsClause_44 : decode cX12_readsClause 44 = .ok (.aload_n 0, 1) := by decide +kernel
theorem dX12_readsClause_45 : decode cX12_readsClause 45 = .ok (.getfield 193, 3) := by decide +kernel
theorem dX12_readsClause_48 : decode cX12_readsClause 48 = .ok (.invokevirtual 206, 3) := by decide +kernel
theorem dX12_readsClause_51 : decode cX12_readsClause 51 = .ok (.ireturn, 1) := by decide +kernel
theorem dX12_readsClause_52 : decode cX12_readsClause 52 = .ok (.aload_n 0, 1) := by decide +kernel
theorem dX12_readsClause_53 : decode cX12_readsClause 53 = .ok (.getfield 272, 3) := by decide +kernel
theorem dX12_readsClause_56 : decode cX12_readsClause 56 = .ok (.bipush 12, 2) := by decide +kernel
theorem dX12_readsClause_58 : decode cX12_readsClause 58 = .ok (.if_icmp .ne 13, 3) := by decide +kernel
theorem dX12_readsClause_61 : decode cX12_readsClause 61 = .ok (.aload_n 0, 1) := by decide +kernel
theorem dX12_readsClause_62 : decode cX12_readsClause 62 = .ok (.iconst 4, 1) := by decide +kernel
theorem dX12_readsClause_63 : decode cX12_readsClause 63 = .ok (.aload_n 0, 1) := by decide +kernel
theorem dX12_readsClause_64 : decode cX12_readsClause 64 = .ok (.getfield 193, 3) := by decide +kernel
theorem dX12_readsClause_67 : decode cX12_readsClause 67 = .ok (.invokevirtual 206, 3) := by decide +kernel
theorem dX12_readsClause_70 : decode cX12_readsClause 70 = .ok (.ireturn, 1) := by decide +kernel
theorem dX12_readsClause_71 : decode cX12_readsClause 71 = .ok (.aload_n 0, 1) := by decide +kernel
theorem dX12_readsClause_72 : decode cX12_readsClause 72 = .ok (.getfield 68, 3) := by decide +kernel
theorem dX12_readsClause_75 : decode cX12_readsClause 75 = .ok (.aload_n 0, 1) := by decide +kernel
theorem dX12_readsClause_76 : decode cX12_readsClause 76 = .ok (.getfield 272, 3) := by decide +kernel
theorem dX12_readsClause_79 : decode cX12_readsClause 79 = .ok (.iload_n 2, 1) := by decide +kernel
theorem dX12_readsClause_80 : decode cX12_readsClause 80 = .ok (.iastore, 1) := by decide +kernel
theorem dX12_readsClause_81 : decode cX12_readsClause 81 = .ok (.aload_n 0, 1) := by decide +kernel
theorem dX12_readsClause_82 : decode cX12_readsClause 82 = .ok (.aload_n 0, 1) := by decide +kernel
theorem dX12_readsClause_83 : decode cX12_readsClause 83 = .ok (.getfield 193, 3) := by decide +kernel
theorem dX12_readsClause_86 : decode cX12_readsClause 86 = .ok (.iconst 1, 1) := by decide +kernel
theorem dX12_readsClause_87 : decode cX12_readsClause 87 = .ok (.iadd, 1) := by decide +kernel
theorem dX12_readsClause_88 : decode cX12_readsClause 88 = .ok (.putfield 193, 3) := by decide +kernel
theorem dX12_readsClause_91 : decode cX12_readsClause 91 = .ok (.aload_n 0, 1) := by decide +kernel
theorem dX12_readsClause_92 : decode cX12_readsClause 92 = .ok (.getfield 71, 3) := by decide +kernel
theorem dX12_readsClause_95 : decode cX12_readsClause 95 = .ok (.aload_n 0, 1) := by decide +kernel
theorem dX12_readsClause_96 : decode cX12_readsClause 96 = .ok (.getfield 272, 3) := by decide +kernel
theorem dX12_readsClause_99 : decode cX12_readsClause 99 = .ok (.aload_n 0, 1) := by decide +kernel
theorem dX12_readsClause_100 : decode cX12_readsClause 100 = .ok (.getfield 217, 3) := by decide +kernel
theorem dX12_readsClause_103 : decode cX12_readsClause 103 = .ok (.iastore, 1) := by decide +kernel
theorem dX12_readsClause_104 : decode cX12_readsClause 104 = .ok (.aload_n 0, 1) := by decide +kernel
theorem dX12_readsClause_105 : decode cX12_readsClause 105 = .ok (.iconst 0, 1) := by decide +kernel
theorem dX12_readsClause_106 : decode cX12_readsClause 106 = .ok (.putfield 221, 3) := by decide +kernel
theorem dX12_readsClause_109 : decode cX12_readsClause 109 = .ok (.aload_n 0, 1) := by decide +kernel
theorem dX12_readsClause_110 : decode cX12_readsClause 110 = .ok (.iconst 0, 1) := by decide +kernel
theorem dX12_readsClause_111 : decode cX12_readsClause 111 = .ok (.putfield 224, 3) := by decide +kernel
theorem dX12_readsClause_114 : decode cX12_readsClause 114 = .ok (.aload_n 0, 1) := by decide +kernel
theorem dX12_readsClause_115 : decode cX12_readsClause 115 = .ok (.invokevirtual 257, 3) := by decide +kernel
theorem dX12_readsClause_118 : decode cX12_readsClause 118 = .ok (.ifCond .ne 5, 3) := by decide +kernel
theorem dX12_readsClause_121 : decode cX12_readsClause 121 = .ok (.iconst 0, 1) := by decide +kernel
theorem dX12_readsClause_122 : decode cX12_readsClause 122 = .ok (.ireturn, 1) := by decide +kernel
theorem dX12_readsClause_123 : decode cX12_readsClause 123 = .ok (.aload_n 0, 1) := by decide +kernel
theorem dX12_readsClause_124 : decode cX12_readsClause 124 = .ok (.getfield 74, 3) := by decide +kernel
theorem dX12_readsClause_127 : decode cX12_readsClause 127 = .ok (.aload_n 0, 1) := by decide +kernel
theorem dX12_readsClause_128 : decode cX12_readsClause 128 = .ok (.getfield 272, 3) := by decide +kernel
theorem dX12_readsClause_131 : decode cX12_readsClause 131 = .ok (.aload_n 0, 1) := by decide +kernel
theorem dX12_readsClause_132 : decode cX12_readsClause 132 = .ok (.getfield 217, 3) := by decide +kernel
theorem dX12_readsClause_135 : decode cX12_readsClause 135 = .ok (.iastore, 1) := by decide +kernel
theorem dX12_readsClause_136 : decode cX12_readsClause 136 = .ok (.aload_n 0, 1) := by decide +kernel
theorem dX12_readsClause_137 : decode cX12_readsClause 137 = .ok (.invokevirtual 275, 3) := by decide +kernel
theorem dX12_readsClause_140 : decode cX12_readsClause 140 = .ok (.ifCond .ne 5, 3) := by decide +kernel
theorem dX12_readsClause_143 : decode cX12_readsClause 143 = .ok (.iconst 0, 1) := by decide +kernel
theorem dX12_readsClause_144 : decode cX12_readsClause 144 = .ok (.ireturn, 1) := by decide +kernel
theorem dX12_readsClause_145 : decode cX12_readsClause 145 = .ok (.aload_n 0, 1) := by decide +kernel
theorem dX12_readsClause_146 : decode cX12_readsClause 146 = .ok (.getfield 77, 3) := by decide +kernel
theorem dX12_readsClause_149 : decode cX12_readsClause 149 = .ok (.aload_n 0, 1) := by decide +kernel
theorem dX12_readsClause_150 : decode cX12_readsClause 150 = .ok (.getfield 272, 3) := by decide +kernel
theorem dX12_readsClause_153 : decode cX12_readsClause 153 = .ok (.aload_n 0, 1) := by decide +kernel
theorem dX12_readsClause_154 : decode cX12_readsClause 154 = .ok (.getfield 217, 3) := by decide +kernel
theorem dX12_readsClause_157 : decode cX12_readsClause 157 = .ok (.iastore, 1) := by decide +kernel
theorem dX12_readsClause_158 : decode cX12_readsClause 158 = .ok (.aload_n 0, 1) := by decide +kernel
theorem dX12_readsClause_159 : decode cX12_readsClause 159 = .ok (.aload_n 0, 1) := by decide +kernel
theorem dX12_readsClause_160 : decode cX12_readsClause 160 = .ok (.getfield 272, 3) := by decide +kernel
theorem dX12_readsClause_163 : decode cX12_readsClause 163 = .ok (.iconst 1, 1) := by decide +kernel
theorem dX12_readsClause_164 : decode cX12_readsClause 164 = .ok (.iadd, 1) := by decide +kernel
theorem dX12_readsClause_165 : decode cX12_readsClause 165 = .ok (.putfield 272, 3) := by decide +kernel
theorem dX12_readsClause_168 : decode cX12_readsClause 168 = .ok (.iconst 1, 1) := by decide +kernel
theorem dX12_readsClause_169 : decode cX12_readsClause 169 = .ok (.ireturn, 1) := by decide +kernel
theorem dX12_keeps_0 : decode cX12_keeps 0 = .ok (.aload_n 0, 1) := by decide +kernel
theorem dX12_keeps_1 : decode cX12_keeps 1 = .ok (.getfield 83, 3) := by decide +kernel
theorem dX12_keeps_4 : decode cX12_keeps 4 = .ok (.iload_n 1, 1) := by decide +kernel
theorem dX12_keeps_5 : decode cX12_keeps 5 = .ok (.aload_n 0, 1) := by decide +kernel
theorem dX12_keeps_6 : decode cX12_keeps 6 = .ok (.getfield 272, 3) := by decide +kernel
theorem dX12_keeps_9 : decode cX12_keeps 9 = .ok (.iastore, 1) := by decide +kernel
theorem dX12_keeps_10 : decode cX12_keeps 10 = .ok (.iconst 0, 1) := by decide +kernel
theorem dX12_keeps_11 : decode cX12_keeps 11 = .ok (.istore_n 2, 1) := by decide +kernel
theorem dX12_keeps_12 : decode cX12_keeps 12 = .ok (.iload_n 2, 1) := by decide +kernel
theorem dX12_keeps_13 : decode cX12_keeps 13 = .ok (.aload_n 0, 1) := by decide +kernel
theorem dX12_keeps_14 : decode cX12_keeps 14 = .ok (.getfield 217, 3) := by decide +kernel
theorem dX12_keeps_17 : decode cX12_keeps 17 = .ok (.if_icmp .ge 27, 3) := by decide +kernel
theorem dX12_keeps_20 : decode cX12_keeps 20 = .ok (.aload_n 0, 1) := by decide +kernel
theorem dX12_keeps_21 : decode cX12_keeps 21 = .ok (.getfield 80, 3) := by decide +kernel
theorem dX12_keeps_24 : decode cX12_keeps 24 = .ok (.sipush 180, 3) := by decide +kernel
theorem dX12_keeps_27 : decode cX12_keeps 27 = .ok (.iload_n 1, 1) := by decide +kernel
theorem dX12_keeps_28 : decode cX12_keeps 28 = .ok (.imul, 1) := by decide +kernel
theorem dX12_keeps_29 : decode cX12_keeps 29 = .ok (.iload_n 2, 1) := by decide +kernel
theorem dX12_keeps_30 : decode cX12_keeps 30 = .ok (.iadd, 1) := by decide +kernel
theorem dX12_keeps_31 : decode cX12_keeps 31 = .ok (.aload_n 0, 1) := by decide +kernel
theorem dX12_keeps_32 : decode cX12_keeps 32 = .ok (.getfield 62, 3) := by decide +kernel
theorem dX12_keeps_35 : decode cX12_keeps 35 = .ok (.iload_n 2, 1) := by decide +kernel
theorem dX12_keeps_36 : decode cX12_keeps 36 = .ok (.iaload, 1) := by decide +kernel
theorem dX12_keeps_37 : decode cX12_keeps 37 = .ok (.iastore, 1) := by decide +kernel
theorem dX12_keeps_38 : decode cX12_keeps 38 = .ok (.iinc 2 1, 3) := by decide +kernel
theorem dX12_keeps_41 : decode cX12_keeps 41 = .ok (.goto (-29), 3) := by decide +kernel
theorem dX12_keeps_44 : decode cX12_keeps 44 = .ok (.iconst 0, 1) := by decide +kernel
theorem dX12_keeps_45 : decode cX12_keeps 45 = .ok (.istore_n 2, 1) := by decide +kernel
theorem dX12_keeps_46 : decode cX12_keeps 46 = .ok (.iload_n 2, 1) := by decide +kernel
theorem dX12_keeps_47 : decode cX12_keeps 47 = .ok (.aload_n 0, 1) := by decide +kernel
theorem dX12_keeps_48 : decode cX12_keeps 48 = .ok (.getfield 272, 3) := by decide +kernel
theorem dX12_keeps_51 : decode cX12_keeps 51 = .ok (.if_icmp .ge 82, 3) := by decide +kernel
theorem dX12_keeps_54 : decode cX12_keeps 54 = .ok (.bipush 12, 2) := by decide +kernel
theorem dX12_keeps_56 : decode cX12_keeps 56 = .ok (.iload_n 1, 1) := by decide +kernel
theorem dX12_keeps_57 : decode cX12_keeps 57 = .ok (.imul, 1) := by decide +kernel
theorem dX12_keeps_58 : decode cX12_keeps 58 = .ok (.iload_n 2, 1) := by decide +kernel
theorem dX12_keeps_59 : decode cX12_keeps 59 = .ok (.iadd, 1) := by decide +kernel
theorem dX12_keeps_60 : decode cX12_keeps 60 = .ok (.istore_n 3, 1) := by decide +kernel
theorem dX12_keeps_61 : decode cX12_keeps 61 = .ok (.aload_n 0, 1) := by decide +kernel
theorem dX12_keeps_62 : decode cX12_keeps 62 = .ok (.getfield 86, 3) := by decide +kernel
theorem dX12_keeps_65 : decode cX12_keeps 65 = .ok (.iload_n 3, 1) := by decide +kernel
theorem dX12_keeps_66 : decode cX12_keeps 66 = .ok (.aload_n 0, 1) := by decide +kernel
theorem dX12_keeps_67 : decode cX12_keeps 67 = .ok (.getfield 68, 3) := by decide +kernel
theorem dX12_keeps_70 : decode cX12_keeps 70 = .ok (.iload_n 2, 1) := by decide +kernel
theorem dX12_keeps_71 : decode cX12_keeps 71 = .ok (.iaload, 1) := by decide +kernel
theorem dX12_keeps_72 : decode cX12_keeps 72 = .ok (.iastore, 1) := by decide +kernel
theorem dX12_keeps_73 : decode cX12_keeps 73 = .ok (.aload_n 0, 1) := by decide +kernel
theorem dX12_keeps_74 : decode cX12_keeps 74 = .ok (.getfield 89, 3) := by decide +kernel
theorem dX12_keeps_77 : decode cX12_keeps 77 = .ok (.iload_n 3, 1) := by decide +kernel
theorem dX12_keeps_78 : decode cX12_keeps 78 = .ok (.sipush 180, 3) := by decide +kernel
theorem dX12_keeps_81 : decode cX12_keeps 81 = .ok (.iload_n 1, 1) := by decide +kernel
theorem dX12_keeps_82 : decode cX12_keeps 82 = .ok (.imul, 1) := by decide +kernel
theorem dX12_keeps_83 : decode cX12_keeps 83 = .ok (.aload_n 0, 1) := by decide +kernel
theorem dX12_keeps_84 : decode cX12_keeps 84 = .ok (.getfield 71, 3) := by decide +kernel
theorem dX12_keeps_87 : decode cX12_keeps 87 = .ok (.iload_n 2, 1) := by decide +kernel
theorem dX12_keeps_88 : decode cX12_keeps 88 = .ok (.iaload, 1) := by decide +kernel
theorem dX12_keeps_89 : decode cX12_keeps 89 = .ok (.iadd, 1) := by decide +kernel
theorem dX12_keeps_90 : decode cX12_keeps 90 = .ok (.iastore, 1) := by decide +kernel
theorem dX12_keeps_91 : decode cX12_keeps 91 = .ok (.aload_n 0, 1) := by decide +kernel
theorem dX12_keeps_92 : decode cX12_keeps 92 = .ok (.getfield 92, 3) := by decide +kernel
theorem dX12_keeps_95 : decode cX12_keeps 95 = .ok (.iload_n 3, 1) := by decide +kernel
theorem dX12_keeps_96 : decode cX12_keeps 96 = .ok (.sipush 180, 3) := by decide +kernel
theorem dX12_keeps_99 : decode cX12_keeps 99 = .ok (.iload_n 1, 1) := by decide +kernel
theorem dX12_keeps_100 : decode cX12_keeps 100 = .ok (.imul, 1) := by decide +kernel
theorem dX12_keeps_101 : decode cX12_keeps 101 = .ok (.aload_n 0, 1) := by decide +kernel
theorem dX12_keeps_102 : decode cX12_keeps 102 = .ok (.getfield 74, 3) := by decide +kernel
theorem dX12_keeps_105 : decode cX12_keeps 105 = .ok (.iload_n 2, 1) := by decide +kernel
theorem dX12_keeps_106 : decode cX12_keeps 106 = .ok (.iaload, 1) := by decide +kernel
theorem dX12_keeps_107 : decode cX12_keeps 107 = .ok (.iadd, 1) := by decide +kernel
theorem dX12_keeps_108 : decode cX12_keeps 108 = .ok (.iastore, 1) := by decide +kernel
theorem dX12_keeps_109 : decode cX12_keeps 109 = .ok (.aload_n 0, 1) := by decide +kernel
theorem dX12_keeps_110 : decode cX12_keeps 110 = .ok (.getfield 95, 3) := by decide +kernel
theorem dX12_keeps_113 : decode cX12_keeps 113 = .ok (.iload_n 3, 1) := by decide +kernel
theorem dX12_keeps_114 : decode cX12_keeps 114 = .ok (.sipush 180, 3) := by decide +kernel
theorem dX12_keeps_117 : decode cX12_keeps 117 = .ok (.iload_n 1, 1) := by decide +kernel
theorem dX12_keeps_118 : decode cX12_keeps 118 = .ok (.imul, 1) := by decide +kernel
theorem dX12_keeps_119 : decode cX12_keeps 119 = .ok (.aload_n 0, 1) := by decide +kernel
theorem dX12_keeps_120 : decode cX12_keeps 120 = .ok (.getfield 77, 3) := by decide +kernel
theorem dX12_keeps_123 : decode cX12_keeps 123 = .ok (.iload_n 2, 1) := by decide +kernel
theorem dX12_keeps_124 : decode cX12_keeps 124 = .ok (.iaload, 1) := by decide +kernel
theorem dX12_keeps_125 : decode cX12_keeps 125 = .ok (.iadd, 1) := by decide +kernel
theorem dX12_keeps_126 : decode cX12_keeps 126 = .ok (.iastore, 1) := by decide +kernel
theorem dX12_keeps_127 : decode cX12_keeps 127 = .ok (.iinc 2 1, 3) := by decide +kernel
theorem dX12_keeps_130 : decode cX12_keeps 130 = .ok (.goto (-84), 3) := by decide +kernel
theorem dX12_keeps_133 : decode cX12_keeps 133 = .ok (.return_, 1) := by decide +kernel
theorem dX12_begins_0 : decode cX12_begins 0 = .ok (.aload_n 0, 1) := by decide +kernel
theorem dX12_begins_1 : decode cX12_begins 1 = .ok (.iconst 0, 1) := by decide +kernel
theorem dX12_begins_2 : decode cX12_begins 2 = .ok (.putfield 193, 3) := by decide +kernel
theorem dX12_begins_5 : decode cX12_begins 5 = .ok (.aload_n 0, 1) := by decide +kernel
theorem dX12_begins_6 : decode cX12_begins 6 = .ok (.iload_n 1, 1) := by decide +kernel
theorem dX12_begins_7 : decode cX12_begins 7 = .ok (.putfield 196, 3) := by decide +kernel
theorem dX12_begins_10 : decode cX12_begins 10 = .ok (.aload_n 0, 1) := by decide +kernel
theorem dX12_begins_11 : decode cX12_begins 11 = .ok (.iconst 0, 1) := by decide +kernel
theorem dX12_begins_12 : decode cX12_begins 12 = .ok (.putfield 217, 3) := by decide +kernel
theorem dX12_begins_15 : decode cX12_begins 15 = .ok (.aload_n 0, 1) := by decide +kernel
theorem dX12_begins_16 : decode cX12_begins 16 = .ok (.iconst 0, 1) := by decide +kernel
theorem dX12_begins_17 : decode cX12_begins 17 = .ok (.putfield 272, 3) := by decide +kernel
theorem dX12_begins_20 : decode cX12_begins 20 = .ok (.aload_n 0, 1) := by decide +kernel
theorem dX12_begins_21 : decode cX12_begins 21 = .ok (.iconst 0, 1) := by decide +kernel
theorem dX12_begins_22 : decode cX12_begins 22 = .ok (.putfield 221, 3) := by decide +kernel
theorem dX12_begins_25 : decode cX12_begins 25 = .ok (.aload_n 0, 1) := by decide +kernel
theorem dX12_begins_26 : decode cX12_begins 26 = .ok (.iconst 0, 1) := by decide +kernel
theorem dX12_begins_27 : decode cX12_begins 27 = .ok (.putfield 224, 3) := by decide +kernel
theorem dX12_begins_30 : decode cX12_begins 30 = .ok (.return_, 1) := by decide +kernel
theorem dX12_reads_0 : decode cX12_reads 0 = .ok (.aload_n 0, 1) := by decide +kernel
theorem dX12_reads_1 : decode cX12_reads 1 = .ok (.iload_n 1, 1) := by decide +kernel
theorem dX12_reads_2 : decode cX12_reads 2 = .ok (.invokevirtual 278, 3) := by decide +kernel
theorem dX12_reads_5 : decode cX12_reads 5 = .ok (.aload_n 0, 1) := by decide +kernel
theorem dX12_reads_6 : decode cX12_reads 6 = .ok (.iload_n 2, 1) := by decide +kernel
theorem dX12_reads_7 : decode cX12_reads 7 = .ok (.bipush 10, 2) := by decide +kernel
theorem dX12_reads_9 : decode cX12_reads 9 = .ok (.if_icmp .ne 7, 3) := by decide +kernel
theorem dX12_reads_12 : decode cX12_reads 12 = .ok (.iconst 1, 1) := by decide +kernel
theorem dX12_reads_13 : decode cX12_reads 13 = .ok (.goto 4, 3) := by decide +kernel
theorem dX12_reads_16 : decode cX12_reads 16 = .ok (.iconst 0, 1) := by decide +kernel
theorem dX12_reads_17 : decode cX12_reads 17 = .ok (.invokevirtual 281, 3) := by decide +kernel
theorem dX12_reads_20 : decode cX12_reads 20 = .ok (.istore_n 3, 1) := by decide +kernel
theorem dX12_reads_21 : decode cX12_reads 21 = .ok (.iload_n 3, 1) := by decide +kernel
theorem dX12_reads_22 : decode cX12_reads 22 = .ok (.ifCond .eq 50, 3) := by decide +kernel
theorem dX12_reads_25 : decode cX12_reads 25 = .ok (.aload_n 0, 1) := by decide +kernel
theorem dX12_reads_26 : decode cX12_reads 26 = .ok (.getfield 193, 3) := by decide +kernel
theorem dX12_reads_29 : decode cX12_reads 29 = .ok (.aload_n 0, 1) := by decide +kernel
theorem dX12_reads_30 : decode cX12_reads 30 = .ok (.getfield 196, 3) := by decide +kernel
theorem dX12_reads_33 : decode cX12_reads 33 = .ok (.if_icmp .ge 39, 3) := by decide +kernel
theorem dX12_reads_36 : decode cX12_reads 36 = .ok (.aload_n 0, 1) := by decide +kernel
theorem dX12_reads_37 : decode cX12_reads 37 = .ok (.bipush 59, 2) := by decide +kernel
theorem dX12_reads_39 : decode cX12_reads 39 = .ok (.invokevirtual 285, 3) := by decide +kernel
theorem dX12_reads_42 : decode cX12_reads 42 = .ok (.ifCond .eq 25, 3) := by decide +kernel
theorem dX12_reads_45 : decode cX12_reads 45 = .ok (.aload_n 0, 1) := by decide +kernel
theorem dX12_reads_46 : decode cX12_reads 46 = .ok (.iload_n 2, 1) := by decide +kernel
theorem dX12_reads_47 : decode cX12_reads 47 = .ok (.bipush 10, 2) := by decide +kernel
theorem dX12_reads_49 : decode cX12_reads 49 = .ok (.if_icmp .ne 7, 3) := by decide +kernel
theorem dX12_reads_52 : decode cX12_reads 52 = .ok (.iconst 1, 1) := by decide +kernel
theorem dX12_reads_53 : decode cX12_reads 53 = .ok (.goto 4, 3) := by decide +kernel
theorem dX12_reads_56 : decode cX12_reads 56 = .ok (.iconst 0, 1) := by decide +kernel
theorem dX12_reads_57 : decode cX12_reads 57 = .ok (.invokevirtual 281, 3) := by decide +kernel
theorem dX12_reads_60 : decode cX12_reads 60 = .ok (.ifCond .eq 7, 3) := by decide +kernel
theorem dX12_reads_63 : decode cX12_reads 63 = .ok (.iconst 1, 1) := by decide +kernel
theorem dX12_reads_64 : decode cX12_reads 64 = .ok (.goto 4, 3) := by decide +kernel
theorem dX12_reads_67 : decode cX12_reads 67 = .ok (.iconst 0, 1) := by decide +kernel
theorem dX12_reads_68 : decode cX12_reads 68 = .ok (.istore_n 3, 1) := by decide +kernel
theorem dX12_reads_69 : decode cX12_reads 69 = .ok (.goto (-48), 3) := by decide +kernel
theorem dX12_reads_72 : decode cX12_reads 72 = .ok (.aload_n 0, 1) := by decide +kernel
theorem dX12_reads_73 : decode cX12_reads 73 = .ok (.iconst 0, 1) := by decide +kernel
theorem dX12_reads_74 : decode cX12_reads 74 = .ok (.putfield 186, 3) := by decide +kernel
theorem dX12_reads_77 : decode cX12_reads 77 = .ok (.iload_n 3, 1) := by decide +kernel
theorem dX12_reads_78 : decode cX12_reads 78 = .ok (.ifCond .ne 8, 3) := by decide +kernel
theorem dX12_reads_81 : decode cX12_reads 81 = .ok (.aload_n 0, 1) := by decide +kernel
theorem dX12_reads_82 : decode cX12_reads 82 = .ok (.getfield 203, 3) := by decide +kernel
theorem dX12_reads_85 : decode cX12_reads 85 = .ok (.ireturn, 1) := by decide +kernel
theorem dX12_reads_86 : decode cX12_reads 86 = .ok (.aload_n 0, 1) := by decide +kernel
theorem dX12_reads_87 : decode cX12_reads 87 = .ok (.iload_n 2, 1) := by decide +kernel
theorem dX12_reads_88 : decode cX12_reads 88 = .ok (.invokevirtual 288, 3) := by decide +kernel
theorem dX12_reads_91 : decode cX12_reads 91 = .ok (.aload_n 0, 1) := by decide +kernel
theorem dX12_reads_92 : decode cX12_reads 92 = .ok (.getfield 272, 3) := by decide +kernel
theorem dX12_reads_95 : decode cX12_reads 95 = .ok (.ireturn, 1) := by decide +kernel
theorem dX12_way_0 : decode cX12_way 0 = .ok (.aload_n 0, 1) := by decide +kernel
theorem dX12_way_1 : decode cX12_way 1 = .ok (.iload_n 1, 1) := by decide +kernel
theorem dX12_way_2 : decode cX12_way 2 = .ok (.invokevirtual 291, 3) := by decide +kernel
theorem dX12_way_5 : decode cX12_way 5 = .ok (.ifCond .eq 22, 3) := by decide +kernel
theorem dX12_way_8 : decode cX12_way 8 = .ok (.iload_n 2, 1) := by decide +kernel
theorem dX12_way_9 : decode cX12_way 9 = .ok (.iconst 1, 1) := by decide +kernel
theorem dX12_way_10 : decode cX12_way 10 = .ok (.sipush 160, 3) := by decide +kernel
theorem dX12_way_13 : decode cX12_way 13 = .ok (.invokestatic 174, 3) := by decide +kernel
theorem dX12_way_16 : decode cX12_way 16 = .ok (.ifCond .eq 11, 3) := by decide +kernel
theorem dX12_way_19 : decode cX12_way 19 = .ok (.iload_n 2, 1) := by decide +kernel
theorem dX12_way_20 : decode cX12_way 20 = .ok (.aload_n 0, 1) := by decide +kernel
theorem dX12_way_21 : decode cX12_way 21 = .ok (.getfield 186, 3) := by decide +kernel
theorem dX12_way_24 : decode cX12_way 24 = .ok (.if_icmp .le 7, 3) := by decide +kernel
theorem dX12_way_27 : decode cX12_way 27 = .ok (.iconst (-1), 1) := by decide +kernel
theorem dX12_way_28 : decode cX12_way 28 = .ok (.goto 9, 3) := by decide +kernel
theorem dX12_way_31 : decode cX12_way 31 = .ok (.aload_n 0, 1) := by decide +kernel
theorem dX12_way_32 : decode cX12_way 32 = .ok (.iload_n 2, 1) := by decide +kernel
theorem dX12_way_33 : decode cX12_way 33 = .ok (.iload_n 1, 1) := by decide +kernel
theorem dX12_way_34 : decode cX12_way 34 = .ok (.invokevirtual 294, 3) := by decide +kernel
theorem dX12_way_37 : decode cX12_way 37 = .ok (.ireturn, 1) := by decide +kernel
theorem dX12_law_0 : decode cX12_law 0 = .ok (.iload_n 1, 1) := by decide +kernel
theorem dX12_law_1 : decode cX12_law 1 = .ok (.iconst 1, 1) := by decide +kernel
theorem dX12_law_2 : decode cX12_law 2 = .ok (.sipush 160, 3) := by decide +kernel
theorem dX12_law_5 : decode cX12_law 5 = .ok (.invokestatic 174, 3) := by decide +kernel
theorem dX12_law_8 : decode cX12_law 8 = .ok (.ifCond .eq 11, 3) := by decide +kernel
theorem dX12_law_11 : decode cX12_law 11 = .ok (.iload_n 1, 1) := by decide +kernel
theorem dX12_law_12 : decode cX12_law 12 = .ok (.aload_n 0, 1) := by decide +kernel
theorem dX12_law_13 : decode cX12_law 13 = .ok (.getfield 186, 3) := by decide +kernel
theorem dX12_law_16 : decode cX12_law 16 = .ok (.if_icmp .le 7, 3) := by decide +kernel
theorem dX12_law_19 : decode cX12_law 19 = .ok (.iconst (-1), 1) := by decide +kernel
theorem dX12_law_20 : decode cX12_law 20 = .ok (.goto 10, 3) := by decide +kernel
theorem dX12_law_23 : decode cX12_law 23 = .ok (.aload_n 0, 1) := by decide +kernel
theorem dX12_law_24 : decode cX12_law 24 = .ok (.iload_n 1, 1) := by decide +kernel
theorem dX12_law_25 : decode cX12_law 25 = .ok (.bipush 10, 2) := by decide +kernel
theorem dX12_law_27 : decode cX12_law 27 = .ok (.invokevirtual 294, 3) := by decide +kernel
theorem dX12_law_30 : decode cX12_law 30 = .ok (.ireturn, 1) := by decide +kernel
theorem dX12_gain_0 : decode cX12_gain 0 = .ok (.iload_n 1, 1) := by decide +kernel
theorem dX12_gain_1 : decode cX12_gain 1 = .ok (.iconst 1, 1) := by decide +kernel
theorem dX12_gain_2 : decode cX12_gain 2 = .ok (.bipush 60, 2) := by decide +kernel
theorem dX12_gain_4 : decode cX12_gain 4 = .ok (.invokestatic 174, 3) := by decide +kernel
theorem dX12_gain_7 : decode cX12_gain 7 = .ok (.ifCond .eq 11, 3) := by decide +kernel
theorem dX12_gain_10 : decode cX12_gain 10 = .ok (.iload_n 1, 1) := by decide +kernel
theorem dX12_gain_11 : decode cX12_gain 11 = .ok (.aload_n 0, 1) := by decide +kernel
theorem dX12_gain_12 : decode cX12_gain 12 = .ok (.getfield 186, 3) := by decide +kernel
theorem dX12_gain_15 : decode cX12_gain 15 = .ok (.if_icmp .le 5, 3) := by decide +kernel
theorem dX12_gain_18 : decode cX12_gain 18 = .ok (.iconst (-1), 1) := by decide +kernel
theorem dX12_gain_19 : decode cX12_gain 19 = .ok (.ireturn, 1) := by decide +kernel
theorem dX12_gain_20 : decode cX12_gain 20 = .ok (.aload_n 0, 1) := by decide +kernel
theorem dX12_gain_21 : decode cX12_gain 21 = .ok (.iload_n 1, 1) := by decide +kernel
theorem dX12_gain_22 : decode cX12_gain 22 = .ok (.invokevirtual 278, 3) := by decide +kernel
theorem dX12_gain_25 : decode cX12_gain 25 = .ok (.aload_n 0, 1) := by decide +kernel
theorem dX12_gain_26 : decode cX12_gain 26 = .ok (.invokevirtual 257, 3) := by decide +kernel
theorem dX12_gain_29 : decode cX12_gain 29 = .ok (.ifCond .eq 30, 3) := by decide +kernel
theorem dX12_gain_32 : decode cX12_gain 32 = .ok (.aload_n 0, 1) := by decide +kernel
theorem dX12_gain_33 : decode cX12_gain 33 = .ok (.getfield 193, 3) := by decide +kernel
theorem dX12_gain_36 : decode cX12_gain 36 = .ok (.aload_n 0, 1) := by decide +kernel
theorem dX12_gain_37 : decode cX12_gain 37 = .ok (.getfield 196, 3) := by decide +kernel
theorem dX12_gain_40 : decode cX12_gain 40 = .ok (.if_icmp .eq 15, 3) := by decide +kernel
theorem dX12_gain_43 : decode cX12_gain 43 = .ok (.aload_n 0, 1) := by decide +kernel
theorem dX12_gain_44 : decode cX12_gain 44 = .ok (.iconst 1, 1) := by decide +kernel
theorem dX12_gain_45 : decode cX12_gain 45 = .ok (.aload_n 0, 1) := by decide +kernel
theorem dX12_gain_46 : decode cX12_gain 46 = .ok (.getfield 193, 3) := by decide +kernel
theorem dX12_gain_49 : decode cX12_gain 49 = .ok (.invokevirtual 206, 3) := by decide +kernel
theorem dX12_gain_52 : decode cX12_gain 52 = .ok (.ifCond .eq 7, 3) := by decide +kernel
theorem dX12_gain_55 : decode cX12_gain 55 = .ok (.iconst 1, 1) := by decide +kernel
theorem dX12_gain_56 : decode cX12_gain 56 = .ok (.goto 4, 3) := by decide +kernel
theorem dX12_gain_59 : decode cX12_gain 59 = .ok (.iconst 0, 1) := by decide +kernel
theorem dX12_gain_60 : decode cX12_gain 60 = .ok (.istore_n 2, 1) := by decide +kernel
theorem dX12_gain_61 : decode cX12_gain 61 = .ok (.aload_n 0, 1) := by decide +kernel
theorem dX12_gain_62 : decode cX12_gain 62 = .ok (.iconst 0, 1) := by decide +kernel
theorem dX12_gain_63 : decode cX12_gain 63 = .ok (.putfield 186, 3) := by decide +kernel
theorem dX12_gain_66 : decode cX12_gain 66 = .ok (.iload_n 2, 1) := by decide +kernel
theorem dX12_gain_67 : decode cX12_gain 67 = .ok (.ifCond .ne 8, 3) := by decide +kernel
theorem dX12_gain_70 : decode cX12_gain 70 = .ok (.aload_n 0, 1) := by decide +kernel
theorem dX12_gain_71 : decode cX12_gain 71 = .ok (.getfield 203, 3) := by decide +kernel
theorem dX12_gain_74 : decode cX12_gain 74 = .ok (.ireturn, 1) := by decide +kernel
theorem dX12_gain_75 : decode cX12_gain 75 = .ok (.aload_n 0, 1) := by decide +kernel
theorem dX12_gain_76 : decode cX12_gain 76 = .ok (.getfield 68, 3) := by decide +kernel
theorem dX12_gain_79 : decode cX12_gain 79 = .ok (.iconst 0, 1) := by decide +kernel
theorem dX12_gain_80 : decode cX12_gain 80 = .ok (.iconst 0, 1) := by decide +kernel
theorem dX12_gain_81 : decode cX12_gain 81 = .ok (.iastore, 1) := by decide +kernel
theorem dX12_gain_82 : decode cX12_gain 82 = .ok (.aload_n 0, 1) := by decide +kernel
theorem dX12_gain_83 : decode cX12_gain 83 = .ok (.getfield 71, 3) := by decide +kernel
theorem dX12_gain_86 : decode cX12_gain 86 = .ok (.iconst 0, 1) := by decide +kernel
theorem dX12_gain_87 : decode cX12_gain 87 = .ok (.iconst 0, 1) := by decide +kernel
theorem dX12_gain_88 : decode cX12_gain 88 = .ok (.iastore, 1) := by decide +kernel
theorem dX12_gain_89 : decode cX12_gain 89 = .ok (.aload_n 0, 1) := by decide +kernel
theorem dX12_gain_90 : decode cX12_gain 90 = .ok (.getfield 74, 3) := by decide +kernel
theorem dX12_gain_93 : decode cX12_gain 93 = .ok (.iconst 0, 1) := by decide +kernel
theorem dX12_gain_94 : decode cX12_gain 94 = .ok (.aload_n 0, 1) := by decide +kernel
theorem dX12_gain_95 : decode cX12_gain 95 = .ok (.getfield 217, 3) := by decide +kernel
theorem dX12_gain_98 : decode cX12_gain 98 = .ok (.iastore, 1) := by decide +kernel
theorem dX12_gain_99 : decode cX12_gain 99 = .ok (.aload_n 0, 1) := by decide +kernel
theorem dX12_gain_100 : decode cX12_gain 100 = .ok (.getfield 77, 3) := by decide +kernel
theorem dX12_gain_103 : decode cX12_gain 103 = .ok (.iconst 0, 1) := by decide +kernel
theorem dX12_gain_104 : decode cX12_gain 104 = .ok (.aload_n 0, 1) := by decide +kernel
theorem dX12_gain_105 : decode cX12_gain 105 = .ok (.getfield 217, 3) := by decide +kernel
theorem dX12_gain_108 : decode cX12_gain 108 = .ok (.iastore, 1) := by decide +kernel
theorem dX12_gain_109 : decode cX12_gain 109 = .ok (.aload_n 0, 1) := by decide +kernel
theorem dX12_gain_110 : decode cX12_gain 110 = .ok (.iconst 1, 1) := by decide +kernel
theorem dX12_gain_111 : decode cX12_gain 111 = .ok (.putfield 272, 3) := by decide +kernel
theorem dX12_gain_114 : decode cX12_gain 114 = .ok (.aload_n 0, 1) := by decide +kernel
theorem dX12_gain_115 : decode cX12_gain 115 = .ok (.bipush 11, 2) := by decide +kernel
theorem dX12_gain_117 : decode cX12_gain 117 = .ok (.invokevirtual 288, 3) := by decide +kernel
theorem dX12_gain_120 : decode cX12_gain 120 = .ok (.iconst 1, 1) := by decide +kernel
theorem dX12_gain_121 : decode cX12_gain 121 = .ok (.ireturn, 1) := by decide +kernel
theorem dX12_reckon_0 : decode cX12_reckon 0 = .ok (.iload_n 0, 1) := by decide +kernel
theorem dX12_reckon_1 : decode cX12_reckon 1 = .ok (.tableswitch 85 2 8 #[43, 47, 51, 55, 59, 63, 74], 43) := by decide +kernel
theorem dX12_reckon_44 : decode cX12_reckon 44 = .ok (.iload_n 1, 1) := by decide +kernel
theorem dX12_reckon_45 : decode cX12_reckon 45 = .ok (.iload_n 2, 1) := by decide +kernel
theorem dX12_reckon_46 : decode cX12_reckon 46 = .ok (.iadd, 1) := by decide +kernel
theorem dX12_reckon_47 : decode cX12_reckon 47 = .ok (.ireturn, 1) := by decide +kernel
theorem dX12_reckon_48 : decode cX12_reckon 48 = .ok (.iload_n 1, 1) := by decide +kernel
theorem dX12_reckon_49 : decode cX12_reckon 49 = .ok (.iload_n 2, 1) := by decide +kernel
theorem dX12_reckon_50 : decode cX12_reckon 50 = .ok (.isub, 1) := by decide +kernel
theorem dX12_reckon_51 : decode cX12_reckon 51 = .ok (.ireturn, 1) := by decide +kernel
theorem dX12_reckon_52 : decode cX12_reckon 52 = .ok (.iload_n 1, 1) := by decide +kernel
theorem dX12_reckon_53 : decode cX12_reckon 53 = .ok (.iload_n 2, 1) := by decide +kernel
theorem dX12_reckon_54 : decode cX12_reckon 54 = .ok (.imul, 1) := by decide +kernel
theorem dX12_reckon_55 : decode cX12_reckon 55 = .ok (.ireturn, 1) := by decide +kernel
theorem dX12_reckon_56 : decode cX12_reckon 56 = .ok (.iload_n 1, 1) := by decide +kernel
theorem dX12_reckon_57 : decode cX12_reckon 57 = .ok (.iload_n 2, 1) := by decide +kernel
theorem dX12_reckon_58 : decode cX12_reckon 58 = .ok (.idiv, 1) := by decide +kernel
theorem dX12_reckon_59 : decode cX12_reckon 59 = .ok (.ireturn, 1) := by decide +kernel
theorem dX12_reckon_60 : decode cX12_reckon 60 = .ok (.iload_n 1, 1) := by decide +kernel
theorem dX12_reckon_61 : decode cX12_reckon 61 = .ok (.iload_n 2, 1) := by decide +kernel
theorem dX12_reckon_62 : decode cX12_reckon 62 = .ok (.irem, 1) := by decide +kernel
theorem dX12_reckon_63 : decode cX12_reckon 63 = .ok (.ireturn, 1) := by decide +kernel
theorem dX12_reckon_64 : decode cX12_reckon 64 = .ok (.iload_n 1, 1) := by decide +kernel
theorem dX12_reckon_65 : decode cX12_reckon 65 = .ok (.iload_n 2, 1) := by decide +kernel
theorem dX12_reckon_66 : decode cX12_reckon 66 = .ok (.if_icmp .ge 7, 3) := by decide +kernel
theorem dX12_reckon_69 : decode cX12_reckon 69 = .ok (.iconst 1, 1) := by decide +kernel
theorem dX12_reckon_70 : decode cX12_reckon 70 = .ok (.goto 4, 3) := by decide +kernel
theorem dX12_reckon_73 : decode cX12_reckon 73 = .ok (.iconst 0, 1) := by decide +kernel
theorem dX12_reckon_74 : decode cX12_reckon 74 = .ok (.ireturn, 1) := by decide +kernel
theorem dX12_reckon_75 : decode cX12_reckon 75 = .ok (.iload_n 1, 1) := by decide +kernel
theorem dX12_reckon_76 : decode cX12_reckon 76 = .ok (.iload_n 2, 1) := by decide +kernel
theorem dX12_reckon_77 : decode cX12_reckon 77 = .ok (.if_icmp .le 7, 3) := by decide +kernel
theorem dX12_reckon_80 : decode cX12_reckon 80 = .ok (.iconst 1, 1) := by decide +kernel
theorem dX12_reckon_81 : decode cX12_reckon 81 = .ok (.goto 4, 3) := by decide +kernel
theorem dX12_reckon_84 : decode cX12_reckon 84 = .ok (.iconst 0, 1) := by decide +kernel
theorem dX12_reckon_85 : decode cX12_reckon 85 = .ok (.ireturn, 1) := by decide +kernel
theorem dX12_reckon_86 : decode cX12_reckon 86 = .ok (.iload_n 1, 1) := by decide +kernel
theorem dX12_reckon_87 : decode cX12_reckon 87 = .ok (.iload_n 2, 1) := by decide +kernel
theorem dX12_reckon_88 : decode cX12_reckon 88 = .ok (.if_icmp .ne 7, 3) := by decide +kernel
theorem dX12_reckon_91 : decode cX12_reckon 91 = .ok (.iconst 1, 1) := by decide +kernel
theorem dX12_reckon_92 : decode cX12_reckon 92 = .ok (.goto 4, 3) := by decide +kernel
theorem dX12_reckon_95 : decode cX12_reckon 95 = .ok (.iconst 0, 1) := by decide +kernel
theorem dX12_reckon_96 : decode cX12_reckon 96 = .ok (.ireturn, 1) := by decide +kernel
theorem dX12_comesTo_0 : decode cX12_comesTo 0 = .ok (.iconst 0, 1) := by decide +kernel
theorem dX12_comesTo_1 : decode cX12_comesTo 1 = .ok (.istore_n 3, 1) := by decide +kernel
theorem dX12_comesTo_2 : decode cX12_comesTo 2 = .ok (.sipush 180, 3) := by decide +kernel
theorem dX12_comesTo_5 : decode cX12_comesTo 5 = .ok (.iload_n 1, 1) := by decide +kernel
theorem dX12_comesTo_6 : decode cX12_comesTo 6 = .ok (.sipush 180, 3) := by decide +kernel
theorem dX12_comesTo_9 : decode cX12_comesTo 9 = .ok (.idiv, 1) := by decide +kernel
theorem dX12_comesTo_10 : decode cX12_comesTo 10 = .ok (.imul, 1) := by decide +kernel
theorem dX12_comesTo_11 : decode cX12_comesTo 11 = .ok (.istore 4, 2) := by decide +kernel
theorem dX12_comesTo_13 : decode cX12_comesTo 13 = .ok (.iload_n 1, 1) := by decide +kernel
theorem dX12_comesTo_14 : decode cX12_comesTo 14 = .ok (.istore 5, 2) := by decide +kernel
theorem dX12_comesTo_16 : decode cX12_comesTo 16 = .ok (.iload 5, 2) := by decide +kernel
theorem dX12_comesTo_18 : decode cX12_comesTo 18 = .ok (.iload_n 2, 1) := by decide +kernel
theorem dX12_comesTo_19 : decode cX12_comesTo 19 = .ok (.if_icmp .ge 214, 3) := by decide +kernel
theorem dX12_comesTo_22 : decode cX12_comesTo 22 = .ok (.aload_n 0, 1) := by decide +kernel
theorem dX12_comesTo_23 : decode cX12_comesTo 23 = .ok (.getfield 80, 3) := by decide +kernel
theorem dX12_comesTo_26 : decode cX12_comesTo 26 = .ok (.iload 5, 2) := by decide +kernel
theorem dX12_comesTo_28 : decode cX12_comesTo 28 = .ok (.iaload, 1) := by decide +kernel
theorem dX12_comesTo_29 : decode cX12_comesTo 29 = .ok (.ldc 220, 2) := by decide +kernel
theorem dX12_comesTo_31 : decode cX12_comesTo 31 = .ok (.idiv, 1) := by decide +kernel
theorem dX12_comesTo_32 : decode cX12_comesTo 32 = .ok (.istore 6, 2) := by decide +kernel
theorem dX12_comesTo_34 : decode cX12_comesTo 34 = .ok (.aload_n 0, 1) := by decide +kernel
theorem dX12_comesTo_35 : decode cX12_comesTo 35 = .ok (.getfield 80, 3) := by decide +kernel
theorem dX12_comesTo_38 : decode cX12_comesTo 38 = .ok (.iload 5, 2) := by decide +kernel
theorem dX12_comesTo_40 : decode cX12_comesTo 40 = .ok (.iaload, 1) := by decide +kernel
theorem dX12_comesTo_41 : decode cX12_comesTo 41 = .ok (.ldc 220, 2) := by decide +kernel
theorem dX12_comesTo_43 : decode cX12_comesTo 43 = .ok (.irem, 1) := by decide +kernel
theorem dX12_comesTo_44 : decode cX12_comesTo 44 = .ok (.istore 7, 2) := by decide +kernel
theorem dX12_comesTo_46 : decode cX12_comesTo 46 = .ok (.iload 5, 2) := by decide +kernel
theorem dX12_comesTo_48 : decode cX12_comesTo 48 = .ok (.iconst 1, 1) := by decide +kernel
theorem dX12_comesTo_49 : decode cX12_comesTo 49 = .ok (.iadd, 1) := by decide +kernel
theorem dX12_comesTo_50 : decode cX12_comesTo 50 = .ok (.istore 5, 2) := by decide +kernel
theorem dX12_comesTo_52 : decode cX12_comesTo 52 = .ok (.iload 6, 2) := by decide +kernel
theorem dX12_comesTo_54 : decode cX12_comesTo 54 = .ok (.ifCond .eq 9, 3) := by decide +kernel
theorem dX12_comesTo_57 : decode cX12_comesTo 57 = .ok (.iload 6, 2) := by decide +kernel
theorem dX12_comesTo_59 : decode cX12_comesTo 59 = .ok (.iconst 1, 1) := by decide +kernel
theorem dX12_comesTo_60 : decode cX12_comesTo 60 = .ok (.if_icmp .ne 33, 3) := by decide +kernel
theorem dX12_comesTo_63 : decode cX12_comesTo 63 = .ok (.aload_n 0, 1) := by decide +kernel
theorem dX12_comesTo_64 : decode cX12_comesTo 64 = .ok (.getfield 98, 3) := by decide +kernel
theorem dX12_comesTo_67 : decode cX12_comesTo 67 = .ok (.iload_n 3, 1) := by decide +kernel
theorem dX12_comesTo_68 : decode cX12_comesTo 68 = .ok (.iload 6, 2) := by decide +kernel
theorem dX12_comesTo_70 : decode cX12_comesTo 70 = .ok (.ifCond .ne 8, 3) := by decide +kernel
theorem dX12_comesTo_73 : decode cX12_comesTo 73 = .ok (.iload 7, 2) := by decide +kernel
theorem dX12_comesTo_75 : decode cX12_comesTo 75 = .ok (.goto 10, 3) := by decide +kernel
theorem dX12_comesTo_78 : decode cX12_comesTo 78 = .ok (.aload_n 0, 1) := by decide +kernel
theorem dX12_comesTo_79 : decode cX12_comesTo 79 = .ok (.getfield 101, 3) := by decide +kernel
theorem dX12_comesTo_82 : decode cX12_comesTo 82 = .ok (.iload 7, 2) := by decide +kernel
theorem dX12_comesTo_84 : decode cX12_comesTo 84 = .ok (.iaload, 1) := by decide +kernel
theorem dX12_comesTo_85 : decode cX12_comesTo 85 = .ok (.iastore, 1) := by decide +kernel
theorem dX12_comesTo_86 : decode cX12_comesTo 86 = .ok (.iload_n 3, 1) := by decide +kernel
theorem dX12_comesTo_87 : decode cX12_comesTo 87 = .ok (.iconst 1, 1) := by decide +kernel
theorem dX12_comesTo_88 : decode cX12_comesTo 88 = .ok (.iadd, 1) := by decide +kernel
theorem dX12_comesTo_89 : decode cX12_comesTo 89 = .ok (.istore_n 3, 1) := by decide +kernel
theorem dX12_comesTo_90 : decode cX12_comesTo 90 = .ok (.goto 140, 3) := by decide +kernel
theorem dX12_comesTo_93 : decode cX12_comesTo 93 = .ok (.iload 6, 2) := by decide +kernel
theorem dX12_comesTo_95 : decode cX12_comesTo 95 = .ok (.bipush 10, 2) := by decide +kernel
theorem dX12_comesTo_97 : decode cX12_comesTo 97 = .ok (.if_icmp .ne 24, 3) := by decide +kernel
theorem dX12_comesTo_100 : decode cX12_comesTo 100 = .ok (.aload_n 0, 1) := by decide +kernel
theorem dX12_comesTo_101 : decode cX12_comesTo 101 = .ok (.getfield 98, 3) := by decide +kernel
theorem dX12_comesTo_104 : decode cX12_comesTo 104 = .ok (.iload_n 3, 1) := by decide +kernel
theorem dX12_comesTo_105 : decode cX12_comesTo 105 = .ok (.iconst 1, 1) := by decide +kernel
theorem dX12_comesTo_106 : decode cX12_comesTo 106 = .ok (.isub, 1) := by decide +kernel
theorem dX12_comesTo_107 : decode cX12_comesTo 107 = .ok (.iconst 1, 1) := by decide +kernel
theorem dX12_comesTo_108 : decode cX12_comesTo 108 = .ok (.aload_n 0, 1) := by decide +kernel
theorem dX12_comesTo_109 : decode cX12_comesTo 109 = .ok (.getfield 98, 3) := by decide +kernel
theorem dX12_comesTo_112 : decode cX12_comesTo 112 = .ok (.iload_n 3, 1) := by decide +kernel
theorem dX12_comesTo_113 : decode cX12_comesTo 113 = .ok (.iconst 1, 1) := by decide +kernel
theorem dX12_comesTo_114 : decode cX12_comesTo 114 = .ok (.isub, 1) := by decide +kernel
theorem dX12_comesTo_115 : decode cX12_comesTo 115 = .ok (.iaload, 1) := by decide +kernel
theorem dX12_comesTo_116 : decode cX12_comesTo 116 = .ok (.isub, 1) := by decide +kernel
theorem dX12_comesTo_117 : decode cX12_comesTo 117 = .ok (.iastore, 1) := by decide +kernel
theorem dX12_comesTo_118 : decode cX12_comesTo 118 = .ok (.goto 112, 3) := by decide +kernel
theorem dX12_comesTo_121 : decode cX12_comesTo 121 = .ok (.iload 6, 2) := by decide +kernel
theorem dX12_comesTo_123 : decode cX12_comesTo 123 = .ok (.bipush 11, 2) := by decide +kernel
theorem dX12_comesTo_125 : decode cX12_comesTo 125 = .ok (.if_icmp .eq 10, 3) := by decide +kernel
theorem dX12_comesTo_128 : decode cX12_comesTo 128 = .ok (.iload 6, 2) := by decide +kernel
theorem dX12_comesTo_130 : decode cX12_comesTo 130 = .ok (.bipush 12, 2) := by decide +kernel
theorem dX12_comesTo_132 : decode cX12_comesTo 132 = .ok (.if_icmp .ne 43, 3) := by decide +kernel
theorem dX12_comesTo_135 : decode cX12_comesTo 135 = .ok (.aload_n 0, 1) := by decide +kernel
theorem dX12_comesTo_136 : decode cX12_comesTo 136 = .ok (.getfield 98, 3) := by decide +kernel
theorem dX12_comesTo_139 : decode cX12_comesTo 139 = .ok (.iload_n 3, 1) := by decide +kernel
theorem dX12_comesTo_140 : decode cX12_comesTo 140 = .ok (.iconst 1, 1) := by decide +kernel
theorem dX12_comesTo_141 : decode cX12_comesTo 141 = .ok (.isub, 1) := by decide +kernel
theorem dX12_comesTo_142 : decode cX12_comesTo 142 = .ok (.iaload, 1) := by decide +kernel
theorem dX12_comesTo_143 : decode cX12_comesTo 143 = .ok (.iload 6, 2) := by decide +kernel
theorem dX12_comesTo_145 : decode cX12_comesTo 145 = .ok (.bipush 12, 2) := by decide +kernel
theorem dX12_comesTo_147 : decode cX12_comesTo 147 = .ok (.if_icmp .ne 7, 3) := by decide +kernel
theorem dX12_comesTo_150 : decode cX12_comesTo 150 = .ok (.iconst 1, 1) := by decide +kernel
theorem dX12_comesTo_151 : decode cX12_comesTo 151 = .ok (.goto 4, 3) := by decide +kernel
theorem dX12_comesTo_154 : decode cX12_comesTo 154 = .ok (.iconst 0, 1) := by decide +kernel
theorem dX12_comesTo_155 : decode cX12_comesTo 155 = .ok (.if_icmp .ne 13, 3) := by decide +kernel
theorem dX12_comesTo_158 : decode cX12_comesTo 158 = .ok (.iload 4, 2) := by decide +kernel
theorem dX12_comesTo_160 : decode cX12_comesTo 160 = .ok (.iload 7, 2) := by decide +kernel
theorem dX12_comesTo_162 : decode cX12_comesTo 162 = .ok (.iadd, 1) := by decide +kernel
theorem dX12_comesTo_163 : decode cX12_comesTo 163 = .ok (.istore 5, 2) := by decide +kernel
theorem dX12_comesTo_165 : decode cX12_comesTo 165 = .ok (.goto 65, 3) := by decide +kernel
theorem dX12_comesTo_168 : decode cX12_comesTo 168 = .ok (.iload_n 3, 1) := by decide +kernel
theorem dX12_comesTo_169 : decode cX12_comesTo 169 = .ok (.iconst 1, 1) := by decide +kernel
theorem dX12_comesTo_170 : decode cX12_comesTo 170 = .ok (.isub, 1) := by decide +kernel
theorem dX12_comesTo_171 : decode cX12_comesTo 171 = .ok (.istore_n 3, 1) := by decide +kernel
theorem dX12_comesTo_172 : decode cX12_comesTo 172 = .ok (.goto 58, 3) := by decide +kernel
theorem dX12_comesTo_175 : decode cX12_comesTo 175 = .ok (.iload_n 3, 1) := by decide +kernel
theorem dX12_comesTo_176 : decode cX12_comesTo 176 = .ok (.iconst 1, 1) := by decide +kernel
theorem dX12_comesTo_177 : decode cX12_comesTo 177 = .ok (.isub, 1) := by decide +kernel
theorem dX12_comesTo_178 : decode cX12_comesTo 178 = .ok (.istore_n 3, 1) := by decide +kernel
theorem dX12_comesTo_179 : decode cX12_comesTo 179 = .ok (.iload 6, 2) := by decide +kernel
theorem dX12_comesTo_181 : decode cX12_comesTo 181 = .ok (.iconst 5, 1) := by decide +kernel
theorem dX12_comesTo_182 : decode cX12_comesTo 182 = .ok (.if_icmp .eq 10, 3) := by decide +kernel
theorem dX12_comesTo_185 : decode cX12_comesTo 185 = .ok (.iload 6, 2) := by decide +kernel
theorem dX12_comesTo_187 : decode cX12_comesTo 187 = .ok (.bipush 6, 2) := by decide +kernel
theorem dX12_comesTo_189 : decode cX12_comesTo 189 = .ok (.if_icmp .ne 14, 3) := by decide +kernel
theorem dX12_comesTo_192 : decode cX12_comesTo 192 = .ok (.aload_n 0, 1) := by decide +kernel
theorem dX12_comesTo_193 : decode cX12_comesTo 193 = .ok (.getfield 98, 3) := by decide +kernel
theorem dX12_comesTo_196 : decode cX12_comesTo 196 = .ok (.iload_n 3, 1) := by decide +kernel
theorem dX12_comesTo_197 : decode cX12_comesTo 197 = .ok (.iaload, 1) := by decide +kernel
theorem dX12_comesTo_198 : decode cX12_comesTo 198 = .ok (.ifCond .ne 5, 3) := by decide +kernel
theorem dX12_comesTo_201 : decode cX12_comesTo 201 = .ok (.iconst 0, 1) := by decide +kernel
theorem dX12_comesTo_202 : decode cX12_comesTo 202 = .ok (.ireturn, 1) := by decide +kernel
theorem dX12_comesTo_203 : decode cX12_comesTo 203 = .ok (.aload_n 0, 1) := by decide +kernel
theorem dX12_comesTo_204 : decode cX12_comesTo 204 = .ok (.getfield 98, 3) := by decide +kernel
theorem dX12_comesTo_207 : decode cX12_comesTo 207 = .ok (.iload_n 3, 1) := by decide +kernel
theorem dX12_comesTo_208 : decode cX12_comesTo 208 = .ok (.iconst 1, 1) := by decide +kernel
theorem dX12_comesTo_209 : decode cX12_comesTo 209 = .ok (.isub, 1) := by decide +kernel
theorem dX12_comesTo_210 : decode cX12_comesTo 210 = .ok (.iload 6, 2) := by decide +kernel
theorem dX12_comesTo_212 : decode cX12_comesTo 212 = .ok (.aload_n 0, 1) := by decide +kernel
theorem dX12_comesTo_213 : decode cX12_comesTo 213 = .ok (.getfield 98, 3) := by decide +kernel
theorem dX12_comesTo_216 : decode cX12_comesTo 216 = .ok (.iload_n 3, 1) := by decide +kernel
theorem dX12_comesTo_217 : decode cX12_comesTo 217 = .ok (.iconst 1, 1) := by decide +kernel
theorem dX12_comesTo_218 : decode cX12_comesTo 218 = .ok (.isub, 1) := by decide +kernel
theorem dX12_comesTo_219 : decode cX12_comesTo 219 = .ok (.iaload, 1) := by decide +kernel
theorem dX12_comesTo_220 : decode cX12_comesTo 220 = .ok (.aload_n 0, 1) := by decide +kernel
theorem dX12_comesTo_221 : decode cX12_comesTo 221 = .ok (.getfield 98, 3) := by decide +kernel
theorem dX12_comesTo_224 : decode cX12_comesTo 224 = .ok (.iload_n 3, 1) := by decide +kernel
theorem dX12_comesTo_225 : decode cX12_comesTo 225 = .ok (.iaload, 1) := by decide +kernel
theorem dX12_comesTo_226 : decode cX12_comesTo 226 = .ok (.invokestatic 298, 3) := by decide +kernel
theorem dX12_comesTo_229 : decode cX12_comesTo 229 = .ok (.iastore, 1) := by decide +kernel
theorem dX12_comesTo_230 : decode cX12_comesTo 230 = .ok (.goto (-214), 3) := by decide +kernel
theorem dX12_comesTo_233 : decode cX12_comesTo 233 = .ok (.aload_n 0, 1) := by decide +kernel
theorem dX12_comesTo_234 : decode cX12_comesTo 234 = .ok (.getfield 98, 3) := by decide +kernel
theorem dX12_comesTo_237 : decode cX12_comesTo 237 = .ok (.iconst 0, 1) := by decide +kernel
theorem dX12_comesTo_238 : decode cX12_comesTo 238 = .ok (.iaload, 1) := by decide +kernel
theorem dX12_comesTo_239 : decode cX12_comesTo 239 = .ok (.ireturn, 1) := by decide +kernel
theorem dX12_byText_0 : decode cX12_byText 0 = .ok (.bipush 12, 2) := by decide +kernel
theorem dX12_byText_2 : decode cX12_byText 2 = .ok (.iload_n 1, 1) := by decide +kernel
theorem dX12_byText_3 : decode cX12_byText 3 = .ok (.imul, 1) := by decide +kernel
theorem dX12_byText_4 : decode cX12_byText 4 = .ok (.istore 4, 2) := by decide +kernel
theorem dX12_byText_6 : decode cX12_byText 6 = .ok (.iload 4, 2) := by decide +kernel
theorem dX12_byText_8 : decode cX12_byText 8 = .ok (.bipush 12, 2) := by decide +kernel
theorem dX12_byText_10 : decode cX12_byText 10 = .ok (.iload_n 1, 1) := by decide +kernel
theorem dX12_byText_11 : decode cX12_byText 11 = .ok (.imul, 1) := by decide +kernel
theorem dX12_byText_12 : decode cX12_byText 12 = .ok (.aload_n 0, 1) := by decide +kernel
theorem dX12_byText_13 : decode cX12_byText 13 = .ok (.getfield 83, 3) := by decide +kernel
theorem dX12_byText_16 : decode cX12_byText 16 = .ok (.iload_n 1, 1) := by decide +kernel
theorem dX12_byText_17 : decode cX12_byText 17 = .ok (.iaload, 1) := by decide +kernel
theorem dX12_byText_18 : decode cX12_byText 18 = .ok (.iadd, 1) := by decide +kernel
theorem dX12_byText_19 : decode cX12_byText 19 = .ok (.if_icmp .ge 87, 3) := by decide +kernel
theorem dX12_byText_22 : decode cX12_byText 22 = .ok (.aload_n 0, 1) := by decide +kernel
theorem dX12_byText_23 : decode cX12_byText 23 = .ok (.getfield 86, 3) := by decide +kernel
theorem dX12_byText_26 : decode cX12_byText 26 = .ok (.iload 4, 2) := by decide +kernel
theorem dX12_byText_28 : decode cX12_byText 28 = .ok (.iaload, 1) := by decide +kernel
theorem dX12_byText_29 : decode cX12_byText 29 = .ok (.iload_n 2, 1) := by decide +kernel
theorem dX12_byText_30 : decode cX12_byText 30 = .ok (.if_icmp .ne 70, 3) := by decide +kernel
theorem dX12_byText_33 : decode cX12_byText 33 = .ok (.aload_n 0, 1) := by decide +kernel
theorem dX12_byText_34 : decode cX12_byText 34 = .ok (.aload_n 0, 1) := by decide +kernel
theorem dX12_byText_35 : decode cX12_byText 35 = .ok (.getfield 92, 3) := by decide +kernel
theorem dX12_byText_38 : decode cX12_byText 38 = .ok (.iload 4, 2) := by decide +kernel
theorem dX12_byText_40 : decode cX12_byText 40 = .ok (.iaload, 1) := by decide +kernel
theorem dX12_byText_41 : decode cX12_byText 41 = .ok (.aload_n 0, 1) := by decide +kernel
theorem dX12_byText_42 : decode cX12_byText 42 = .ok (.getfield 95, 3) := by decide +kernel
theorem dX12_byText_45 : decode cX12_byText 45 = .ok (.iload 4, 2) := by decide +kernel
theorem dX12_byText_47 : decode cX12_byText 47 = .ok (.iaload, 1) := by decide +kernel
theorem dX12_byText_48 : decode cX12_byText 48 = .ok (.invokevirtual 302, 3) := by decide +kernel
theorem dX12_byText_51 : decode cX12_byText 51 = .ok (.iconst 1, 1) := by decide +kernel
theorem dX12_byText_52 : decode cX12_byText 52 = .ok (.if_icmp .eq 6, 3) := by decide +kernel
theorem dX12_byText_55 : decode cX12_byText 55 = .ok (.goto 45, 3) := by decide +kernel
theorem dX12_byText_58 : decode cX12_byText 58 = .ok (.aload_n 0, 1) := by decide +kernel
theorem dX12_byText_59 : decode cX12_byText 59 = .ok (.aload_n 0, 1) := by decide +kernel
theorem dX12_byText_60 : decode cX12_byText 60 = .ok (.getfield 89, 3) := by decide +kernel
theorem dX12_byText_63 : decode cX12_byText 63 = .ok (.iload 4, 2) := by decide +kernel
theorem dX12_byText_65 : decode cX12_byText 65 = .ok (.iaload, 1) := by decide +kernel
theorem dX12_byText_66 : decode cX12_byText 66 = .ok (.aload_n 0, 1) := by decide +kernel
theorem dX12_byText_67 : decode cX12_byText 67 = .ok (.getfield 92, 3) := by decide +kernel
theorem dX12_byText_70 : decode cX12_byText 70 = .ok (.iload 4, 2) := by decide +kernel
theorem dX12_byText_72 : decode cX12_byText 72 = .ok (.iaload, 1) := by decide +kernel
theorem dX12_byText_73 : decode cX12_byText 73 = .ok (.invokevirtual 302, 3) := by decide +kernel
theorem dX12_byText_76 : decode cX12_byText 76 = .ok (.istore 5, 2) := by decide +kernel
theorem dX12_byText_78 : decode cX12_byText 78 = .ok (.iload 5, 2) := by decide +kernel
theorem dX12_byText_80 : decode cX12_byText 80 = .ok (.ifCond .ge 7, 3) := by decide +kernel
theorem dX12_byText_83 : decode cX12_byText 83 = .ok (.iconst 0, 1) := by decide +kernel
theorem dX12_byText_84 : decode cX12_byText 84 = .ok (.goto 15, 3) := by decide +kernel
theorem dX12_byText_87 : decode cX12_byText 87 = .ok (.iload 5, 2) := by decide +kernel
theorem dX12_byText_89 : decode cX12_byText 89 = .ok (.iload_n 3, 1) := by decide +kernel
theorem dX12_byText_90 : decode cX12_byText 90 = .ok (.if_icmp .le 7, 3) := by decide +kernel
theorem dX12_byText_93 : decode cX12_byText 93 = .ok (.iload_n 3, 1) := by decide +kernel
theorem dX12_byText_94 : decode cX12_byText 94 = .ok (.goto 5, 3) := by decide +kernel
theorem dX12_byText_97 : decode cX12_byText 97 = .ok (.iload 5, 2) := by decide +kernel
theorem dX12_byText_99 : decode cX12_byText 99 = .ok (.ireturn, 1) := by decide +kernel
theorem dX12_byText_100 : decode cX12_byText 100 = .ok (.iinc 4 1, 3) := by decide +kernel
theorem dX12_byText_103 : decode cX12_byText 103 = .ok (.goto (-97), 3) := by decide +kernel
theorem dX12_byText_106 : decode cX12_byText 106 = .ok (.iconst 0, 1) := by decide +kernel
theorem dX12_byText_107 : decode cX12_byText 107 = .ok (.ireturn, 1) := by decide +kernel
theorem dX12_isThere_0 : decode cX12_isThere 0 = .ok (.aload_n 0, 1) := by decide +kernel
theorem dX12_isThere_1 : decode cX12_isThere 1 = .ok (.getfield 37, 3) := by decide +kernel
theorem dX12_isThere_4 : decode cX12_isThere 4 = .ok (.iload_n 1, 1) := by decide +kernel
theorem dX12_isThere_5 : decode cX12_isThere 5 = .ok (.iaload, 1) := by decide +kernel
theorem dX12_isThere_6 : decode cX12_isThere 6 = .ok (.aload_n 0, 1) := by decide +kernel
theorem dX12_isThere_7 : decode cX12_isThere 7 = .ok (.getfield 183, 3) := by decide +kernel
theorem dX12_isThere_10 : decode cX12_isThere 10 = .ok (.if_icmp .gt 7, 3) := by decide +kernel
theorem dX12_isThere_13 : decode cX12_isThere 13 = .ok (.iconst 1, 1) := by decide +kernel
theorem dX12_isThere_14 : decode cX12_isThere 14 = .ok (.goto 4, 3) := by decide +kernel
theorem dX12_isThere_17 : decode cX12_isThere 17 = .ok (.iconst 0, 1) := by decide +kernel
theorem dX12_isThere_18 : decode cX12_isThere 18 = .ok (.ireturn, 1) := by decide +kernel
theorem dX12_feels_0 : decode cX12_feels 0 = .ok (.aload_n 0, 1) := by decide +kernel
theorem dX12_feels_1 : decode cX12_feels 1 = .ok (.getfield 40, 3) := by decide +kernel
theorem dX12_feels_4 : decode cX12_feels 4 = .ok (.iload_n 2, 1) := by decide +kernel
theorem dX12_feels_5 : decode cX12_feels 5 = .ok (.iaload, 1) := by decide +kernel
theorem dX12_feels_6 : decode cX12_feels 6 = .ok (.istore 4, 2) := by decide +kernel
theorem dX12_feels_8 : decode cX12_feels 8 = .ok (.iconst 0, 1) := by decide +kernel
theorem dX12_feels_9 : decode cX12_feels 9 = .ok (.istore 5, 2) := by decide +kernel
theorem dX12_feels_11 : decode cX12_feels 11 = .ok (.iconst 0, 1) := by decide +kernel
theorem dX12_feels_12 : decode cX12_feels 12 = .ok (.istore 6, 2) := by decide +kernel
theorem dX12_feels_14 : decode cX12_feels 14 = .ok (.iload 6, 2) := by decide +kernel
theorem dX12_feels_16 : decode cX12_feels 16 = .ok (.aload_n 0, 1) := by decide +kernel
theorem dX12_feels_17 : decode cX12_feels 17 = .ok (.getfield 171, 3) := by decide +kernel
theorem dX12_feels_20 : decode cX12_feels 20 = .ok (.if_icmp .ge 40, 3) := by decide +kernel
theorem dX12_feels_23 : decode cX12_feels 23 = .ok (.iload 5, 2) := by decide +kernel
theorem dX12_feels_25 : decode cX12_feels 25 = .ok (.aload_n 0, 1) := by decide +kernel
theorem dX12_feels_26 : decode cX12_feels 26 = .ok (.iload 6, 2) := by decide +kernel
theorem dX12_feels_28 : decode cX12_feels 28 = .ok (.invokevirtual 305, 3) := by decide +kernel
theorem dX12_feels_31 : decode cX12_feels 31 = .ok (.ifCond .eq 19, 3) := by decide +kernel
theorem dX12_feels_34 : decode cX12_feels 34 = .ok (.aload_n 0, 1) := by decide +kernel
theorem dX12_feels_35 : decode cX12_feels 35 = .ok (.getfield 40, 3) := by decide +kernel
theorem dX12_feels_38 : decode cX12_feels 38 = .ok (.iload 6, 2) := by decide +kernel
theorem dX12_feels_40 : decode cX12_feels 40 = .ok (.iaload, 1) := by decide +kernel
theorem dX12_feels_41 : decode cX12_feels 41 = .ok (.iload 4, 2) := by decide +kernel
theorem dX12_feels_43 : decode cX12_feels 43 = .ok (.if_icmp .ne 7, 3) := by decide +kernel
theorem dX12_feels_46 : decode cX12_feels 46 = .ok (.iconst 1, 1) := by decide +kernel
theorem dX12_feels_47 : decode cX12_feels 47 = .ok (.goto 4, 3) := by decide +kernel
theorem dX12_feels_50 : decode cX12_feels 50 = .ok (.iconst 0, 1) := by decide +kernel
theorem dX12_feels_51 : decode cX12_feels 51 = .ok (.iadd, 1) := by decide +kernel
theorem dX12_feels_52 : decode cX12_feels 52 = .ok (.istore 5, 2) := by decide +kernel
theorem dX12_feels_54 : decode cX12_feels 54 = .ok (.iinc 6 1, 3) := by decide +kernel
theorem dX12_feels_57 : decode cX12_feels 57 = .ok (.goto (-43), 3) := by decide +kernel
theorem dX12_feels_60 : decode cX12_feels 60 = .ok (.aload_n 0, 1) := by decide +kernel
theorem dX12_feels_61 : decode cX12_feels 61 = .ok (.getfield 101, 3) := by decide +kernel
theorem dX12_feels_64 : decode cX12_feels 64 = .ok (.iconst 0, 1) := by decide +kernel
theorem dX12_feels_65 : decode cX12_feels 65 = .ok (.aload_n 0, 1) := by decide +kernel
theorem dX12_feels_66 : decode cX12_feels 66 = .ok (.getfield 28, 3) := by decide +kernel
theorem dX12_feels_69 : decode cX12_feels 69 = .ok (.iload_n 2, 1) := by decide +kernel
theorem dX12_feels_70 : decode cX12_feels 70 = .ok (.iaload, 1) := by decide +kernel
theorem dX12_feels_71 : decode cX12_feels 71 = .ok (.iastore, 1) := by decide +kernel
theorem dX12_feels_72 : decode cX12_feels 72 = .ok (.aload_n 0, 1) := by decide +kernel
theorem dX12_feels_73 : decode cX12_feels 73 = .ok (.getfield 101, 3) := by decide +kernel
theorem dX12_feels_76 : decode cX12_feels 76 = .ok (.iconst 1, 1) := by decide +kernel
theorem dX12_feels_77 : decode cX12_feels 77 = .ok (.aload_n 0, 1) := by decide +kernel
theorem dX12_feels_78 : decode cX12_feels 78 = .ok (.getfield 43, 3) := by decide +kernel
theorem dX12_feels_81 : decode cX12_feels 81 = .ok (.iload_n 2, 1) := by decide +kernel
theorem dX12_feels_82 : decode cX12_feels 82 = .ok (.iaload, 1) := by decide +kernel
theorem dX12_feels_83 : decode cX12_feels 83 = .ok (.iastore, 1) := by decide +kernel
theorem dX12_feels_84 : decode cX12_feels 84 = .ok (.aload_n 0, 1) := by decide +kernel
theorem dX12_feels_85 : decode cX12_feels 85 = .ok (.getfield 101, 3) := by decide +kernel
theorem dX12_feels_88 : decode cX12_feels 88 = .ok (.iconst 2, 1) := by decide +kernel
theorem dX12_feels_89 : decode cX12_feels 89 = .ok (.aload_n 0, 1) := by decide +kernel
theorem dX12_feels_90 : decode cX12_feels 90 = .ok (.getfield 34, 3) := by decide +kernel
theorem dX12_feels_93 : decode cX12_feels 93 = .ok (.iload_n 2, 1) := by decide +kernel
theorem dX12_feels_94 : decode cX12_feels 94 = .ok (.iaload, 1) := by decide +kernel
theorem dX12_feels_95 : decode cX12_feels 95 = .ok (.iastore, 1) := by decide +kernel
theorem dX12_feels_96 : decode cX12_feels 96 = .ok (.aload_n 0, 1) := by decide +kernel
theorem dX12_feels_97 : decode cX12_feels 97 = .ok (.getfield 101, 3) := by decide +kernel
theorem dX12_feels_100 : decode cX12_feels 100 = .ok (.iconst 3, 1) := by decide +kernel
theorem dX12_feels_101 : decode cX12_feels 101 = .ok (.aload_n 0, 1) := by decide +kernel
theorem dX12_feels_102 : decode cX12_feels 102 = .ok (.getfield 46, 3) := by decide +kernel
theorem dX12_feels_105 : decode cX12_feels 105 = .ok (.iload_n 2, 1) := by decide +kernel
theorem dX12_feels_106 : decode cX12_feels 106 = .ok (.iaload, 1) := by decide +kernel
theorem dX12_feels_107 : decode cX12_feels 107 = .ok (.iastore, 1) := by decide +kernel
theorem dX12_feels_108 : decode cX12_feels 108 = .ok (.aload_n 0, 1) := by decide +kernel
theorem dX12_feels_109 : decode cX12_feels 109 = .ok (.getfield 101, 3) := by decide +kernel
theorem dX12_feels_112 : decode cX12_feels 112 = .ok (.iconst 4, 1) := by decide +kernel
theorem dX12_feels_113 : decode cX12_feels 113 = .ok (.iload 4, 2) := by decide +kernel
theorem dX12_feels_115 : decode cX12_feels 115 = .ok (.iastore, 1) := by decide +kernel
theorem dX12_feels_116 : decode cX12_feels 116 = .ok (.aload_n 0, 1) := by decide +kernel
theorem dX12_feels_117 : decode cX12_feels 117 = .ok (.getfield 101, 3) := by decide +kernel
theorem dX12_feels_120 : decode cX12_feels 120 = .ok (.iconst 5, 1) := by decide +kernel
theorem dX12_feels_121 : decode cX12_feels 121 = .ok (.aload_n 0, 1) := by decide +kernel
theorem dX12_feels_122 : decode cX12_feels 122 = .ok (.getfield 13, 3) := by decide +kernel
theorem dX12_feels_125 : decode cX12_feels 125 = .ok (.iload_n 1, 1) := by decide +kernel
theorem dX12_feels_126 : decode cX12_feels 126 = .ok (.iaload, 1) := by decide +kernel
theorem dX12_feels_127 : decode cX12_feels 127 = .ok (.iastore, 1) := by decide +kernel
theorem dX12_feels_128 : decode cX12_feels 128 = .ok (.aload_n 0, 1) := by decide +kernel
theorem dX12_feels_129 : decode cX12_feels 129 = .ok (.getfield 101, 3) := by decide +kernel
theorem dX12_feels_132 : decode cX12_feels 132 = .ok (.bipush 6, 2) := by decide +kernel
theorem dX12_feels_134 : decode cX12_feels 134 = .ok (.aload_n 0, 1) := by decide +kernel
theorem dX12_feels_135 : decode cX12_feels 135 = .ok (.getfield 7, 3) := by decide +kernel
theorem dX12_feels_138 : decode cX12_feels 138 = .ok (.iload_n 1, 1) := by decide +kernel
theorem dX12_feels_139 : decode cX12_feels 139 = .ok (.iaload, 1) := by decide +kernel
theorem dX12_feels_140 : decode cX12_feels 140 = .ok (.iastore, 1) := by decide +kernel
theorem dX12_feels_141 : decode cX12_feels 141 = .ok (.aload_n 0, 1) := by decide +kernel
theorem dX12_feels_142 : decode cX12_feels 142 = .ok (.getfield 101, 3) := by decide +kernel
theorem dX12_feels_145 : decode cX12_feels 145 = .ok (.bipush 7, 2) := by decide +kernel
theorem dX12_feels_147 : decode cX12_feels 147 = .ok (.iload_n 1, 1) := by decide +kernel
theorem dX12_feels_148 : decode cX12_feels 148 = .ok (.iastore, 1) := by decide +kernel
theorem dX12_feels_149 : decode cX12_feels 149 = .ok (.aload_n 0, 1) := by decide +kernel
theorem dX12_feels_150 : decode cX12_feels 150 = .ok (.getfield 101, 3) := by decide +kernel
theorem dX12_feels_153 : decode cX12_feels 153 = .ok (.bipush 8, 2) := by decide +kernel
theorem dX12_feels_155 : decode cX12_feels 155 = .ok (.iload 5, 2) := by decide +kernel
theorem dX12_feels_157 : decode cX12_feels 157 = .ok (.iastore, 1) := by decide +kernel
theorem dX12_feels_158 : decode cX12_feels 158 = .ok (.aload_n 0, 1) := by decide +kernel
theorem dX12_feels_159 : decode cX12_feels 159 = .ok (.getfield 101, 3) := by decide +kernel
theorem dX12_feels_162 : decode cX12_feels 162 = .ok (.bipush 9, 2) := by decide +kernel
theorem dX12_feels_164 : decode cX12_feels 164 = .ok (.aload_n 0, 1) := by decide +kernel
theorem dX12_feels_165 : decode cX12_feels 165 = .ok (.getfield 308, 3) := by decide +kernel
theorem dX12_feels_168 : decode cX12_feels 168 = .ok (.iastore, 1) := by decide +kernel
theorem dX12_feels_169 : decode cX12_feels 169 = .ok (.aload_n 0, 1) := by decide +kernel
theorem dX12_feels_170 : decode cX12_feels 170 = .ok (.getfield 101, 3) := by decide +kernel
theorem dX12_feels_173 : decode cX12_feels 173 = .ok (.bipush 10, 2) := by decide +kernel
theorem dX12_feels_175 : decode cX12_feels 175 = .ok (.aload_n 0, 1) := by decide +kernel
theorem dX12_feels_176 : decode cX12_feels 176 = .ok (.getfield 183, 3) := by decide +kernel
theorem dX12_feels_179 : decode cX12_feels 179 = .ok (.iastore, 1) := by decide +kernel
theorem dX12_feels_180 : decode cX12_feels 180 = .ok (.aload_n 0, 1) := by decide +kernel
theorem dX12_feels_181 : decode cX12_feels 181 = .ok (.getfield 101, 3) := by decide +kernel
theorem dX12_feels_184 : decode cX12_feels 184 = .ok (.bipush 11, 2) := by decide +kernel
theorem dX12_feels_186 : decode cX12_feels 186 = .ok (.iload_n 3, 1) := by decide +kernel
theorem dX12_feels_187 : decode cX12_feels 187 = .ok (.iastore, 1) := by decide +kernel
theorem dX12_feels_188 : decode cX12_feels 188 = .ok (.return_, 1) := by decide +kernel
theorem dX12_asksOf_0 : decode cX12_asksOf 0 = .ok (.aload_n 0, 1) := by decide +kernel
theorem dX12_asksOf_1 : decode cX12_asksOf 1 = .ok (.iload_n 1, 1) := by decide +kernel
theorem dX12_asksOf_2 : decode cX12_asksOf 2 = .ok (.iload_n 2, 1) := by decide +kernel
theorem dX12_asksOf_3 : decode cX12_asksOf 3 = .ok (.iconst 0, 1) := by decide +kernel
theorem dX12_asksOf_4 : decode cX12_asksOf 4 = .ok (.invokevirtual 311, 3) := by decide +kernel
theorem dX12_asksOf_7 : decode cX12_asksOf 7 = .ok (.aload_n 0, 1) := by decide +kernel
theorem dX12_asksOf_8 : decode cX12_asksOf 8 = .ok (.aload_n 0, 1) := by decide +kernel
theorem dX12_asksOf_9 : decode cX12_asksOf 9 = .ok (.iload_n 1, 1) := by decide +kernel
theorem dX12_asksOf_10 : decode cX12_asksOf 10 = .ok (.bipush 97, 2) := by decide +kernel
theorem dX12_asksOf_12 : decode cX12_asksOf 12 = .ok (.sipush 10000, 3) := by decide +kernel
theorem dX12_asksOf_15 : decode cX12_asksOf 15 = .ok (.invokevirtual 315, 3) := by decide +kernel
theorem dX12_asksOf_18 : decode cX12_asksOf 18 = .ok (.putfield 318, 3) := by decide +kernel
theorem dX12_asksOf_21 : decode cX12_asksOf 21 = .ok (.aload_n 0, 1) := by decide +kernel
theorem dX12_asksOf_22 : decode cX12_asksOf 22 = .ok (.aload_n 0, 1) := by decide +kernel
theorem dX12_asksOf_23 : decode cX12_asksOf 23 = .ok (.iload_n 1, 1) := by decide +kernel
theorem dX12_asksOf_24 : decode cX12_asksOf 24 = .ok (.bipush 119, 2) := by decide +kernel
theorem dX12_asksOf_26 : decode cX12_asksOf 26 = .ok (.bipush 24, 2) := by decide +kernel
theorem dX12_asksOf_28 : decode cX12_asksOf 28 = .ok (.invokevirtual 315, 3) := by decide +kernel
theorem dX12_asksOf_31 : decode cX12_asksOf 31 = .ok (.putfield 321, 3) := by decide +kernel
theorem dX12_asksOf_34 : decode cX12_asksOf 34 = .ok (.return_, 1) := by decide +kernel
theorem dX12_lowest_0 : decode cX12_lowest 0 = .ok (.iload_n 2, 1) := by decide +kernel
theorem dX12_lowest_1 : decode cX12_lowest 1 = .ok (.istore_n 3, 1) := by decide +kernel
theorem dX12_lowest_2 : decode cX12_lowest 2 = .ok (.iconst 0, 1) := by decide +kernel
theorem dX12_lowest_3 : decode cX12_lowest 3 = .ok (.istore 4, 2) := by decide +kernel
theorem dX12_lowest_5 : decode cX12_lowest 5 = .ok (.iload 4, 2) := by decide +kernel
theorem dX12_lowest_7 : decode cX12_lowest 7 = .ok (.aload_n 0, 1) := by decide +kernel
theorem dX12_lowest_8 : decode cX12_lowest 8 = .ok (.getfield 165, 3) := by decide +kernel
theorem dX12_lowest_11 : decode cX12_lowest 11 = .ok (.if_icmp .ge 32, 3) := by decide +kernel
theorem dX12_lowest_14 : decode cX12_lowest 14 = .ok (.iload_n 1, 1) := by decide +kernel
theorem dX12_lowest_15 : decode cX12_lowest 15 = .ok (.iload 4, 2) := by decide +kernel
theorem dX12_lowest_17 : decode cX12_lowest 17 = .ok (.ishr, 1) := by decide +kernel
theorem dX12_lowest_18 : decode cX12_lowest 18 = .ok (.iconst 1, 1) := by decide +kernel
theorem dX12_lowest_19 : decode cX12_lowest 19 = .ok (.iand, 1) := by decide +kernel
theorem dX12_lowest_20 : decode cX12_lowest 20 = .ok (.ifCond .ne 6, 3) := by decide +kernel
theorem dX12_lowest_23 : decode cX12_lowest 23 = .ok (.goto 14, 3) := by decide +kernel
theorem dX12_lowest_26 : decode cX12_lowest 26 = .ok (.iload_n 3, 1) := by decide +kernel
theorem dX12_lowest_27 : decode cX12_lowest 27 = .ok (.ifCond .ne 6, 3) := by decide +kernel
theorem dX12_lowest_30 : decode cX12_lowest 30 = .ok (.iload 4, 2) := by decide +kernel
theorem dX12_lowest_32 : decode cX12_lowest 32 = .ok (.ireturn, 1) := by decide +kernel
theorem dX12_lowest_33 : decode cX12_lowest 33 = .ok (.iload_n 3, 1) := by decide +kernel
theorem dX12_lowest_34 : decode cX12_lowest 34 = .ok (.iconst 1, 1) := by decide +kernel
theorem dX12_lowest_35 : decode cX12_lowest 35 = .ok (.isub, 1) := by decide +kernel
theorem dX12_lowest_36 : decode cX12_lowest 36 = .ok (.istore_n 3, 1) := by decide +kernel
theorem dX12_lowest_37 : decode cX12_lowest 37 = .ok (.iinc 4 1, 3) := by decide +kernel
theorem dX12_lowest_40 : decode cX12_lowest 40 = .ok (.goto (-35), 3) := by decide +kernel
theorem dX12_lowest_43 : decode cX12_lowest 43 = .ok (.iconst (-1), 1) := by decide +kernel
theorem dX12_lowest_44 : decode cX12_lowest 44 = .ok (.ireturn, 1) := by decide +kernel
theorem dX12_server_0 : decode cX12_server 0 = .ok (.aload_n 0, 1) := by decide +kernel
theorem dX12_server_1 : decode cX12_server 1 = .ok (.getfield 22, 3) := by decide +kernel
theorem dX12_server_4 : decode cX12_server 4 = .ok (.aload_n 0, 1) := by decide +kernel
theorem dX12_server_5 : decode cX12_server 5 = .ok (.getfield 40, 3) := by decide +kernel
theorem dX12_server_8 : decode cX12_server 8 = .ok (.iload_n 1, 1) := by decide +kernel
theorem dX12_server_9 : decode cX12_server 9 = .ok (.iaload, 1) := by decide +kernel
theorem dX12_server_10 : decode cX12_server 10 = .ok (.iaload, 1) := by decide +kernel
theorem dX12_server_11 : decode cX12_server 11 = .ok (.istore_n 2, 1) := by decide +kernel
theorem dX12_server_12 : decode cX12_server 12 = .ok (.aload_n 0, 1) := by decide +kernel
theorem dX12_server_13 : decode cX12_server 13 = .ok (.getfield 25, 3) := by decide +kernel
theorem dX12_server_16 : decode cX12_server 16 = .ok (.aload_n 0, 1) := by decide +kernel
theorem dX12_server_17 : decode cX12_server 17 = .ok (.getfield 40, 3) := by decide +kernel
theorem dX12_server_20 : decode cX12_server 20 = .ok (.iload_n 1, 1) := by decide +kernel
theorem dX12_server_21 : decode cX12_server 21 = .ok (.iaload, 1) := by decide +kernel
theorem dX12_server_22 : decode cX12_server 22 = .ok (.iaload, 1) := by decide +kernel
theorem dX12_server_23 : decode cX12_server 23 = .ok (.istore_n 3, 1) := by decide +kernel
theorem dX12_server_24 : decode cX12_server 24 = .ok (.iload_n 3, 1) := by decide +kernel
theorem dX12_server_25 : decode cX12_server 25 = .ok (.ifCond .ne 10, 3) := by decide +kernel
theorem dX12_server_28 : decode cX12_server 28 = .ok (.aload_n 0, 1) := by decide +kernel
theorem dX12_server_29 : decode cX12_server 29 = .ok (.iload_n 2, 1) := by decide +kernel
theorem dX12_server_30 : decode cX12_server 30 = .ok (.iconst 0, 1) := by decide +kernel
theorem dX12_server_31 : decode cX12_server 31 = .ok (.invokevirtual 324, 3) := by decide +kernel
theorem dX12_server_34 : decode cX12_server 34 = .ok (.ireturn, 1) := by decide +kernel
theorem dX12_server_35 : decode cX12_server 35 = .ok (.iload_n 3, 1) := by decide +kernel
theorem dX12_server_36 : decode cX12_server 36 = .ok (.iconst 2, 1) := by decide +kernel
theorem dX12_server_37 : decode cX12_server 37 = .ok (.if_icmp .ne 38, 3) := by decide +kernel
theorem dX12_server_40 : decode cX12_server 40 = .ok (.aload_n 0, 1) := by decide +kernel
theorem dX12_server_41 : decode cX12_server 41 = .ok (.sipush 25173, 3) := by decide +kernel
theorem dX12_server_44 : decode cX12_server 44 = .ok (.aload_n 0, 1) := by decide +kernel
theorem dX12_server_45 : decode cX12_server 45 = .ok (.getfield 162, 3) := by decide +kernel
theorem dX12_server_48 : decode cX12_server 48 = .ok (.imul, 1) := by decide +kernel
theorem dX12_server_49 : decode cX12_server 49 = .ok (.sipush 13849, 3) := by decide +kernel
theorem dX12_server_52 : decode cX12_server 52 = .ok (.iadd, 1) := by decide +kernel
theorem dX12_server_53 : decode cX12_server 53 = .ok (.ldc_w 327, 3) := by decide +kernel
theorem dX12_server_56 : decode cX12_server 56 = .ok (.irem, 1) := by decide +kernel
theorem dX12_server_57 : decode cX12_server 57 = .ok (.putfield 162, 3) := by decide +kernel
theorem dX12_server_60 : decode cX12_server 60 = .ok (.aload_n 0, 1) := by decide +kernel
theorem dX12_server_61 : decode cX12_server 61 = .ok (.iload_n 2, 1) := by decide +kernel
theorem dX12_server_62 : decode cX12_server 62 = .ok (.aload_n 0, 1) := by decide +kernel
theorem dX12_server_63 : decode cX12_server 63 = .ok (.getfield 162, 3) := by decide +kernel
theorem dX12_server_66 : decode cX12_server 66 = .ok (.iload_n 2, 1) := by decide +kernel
theorem dX12_server_67 : decode cX12_server 67 = .ok (.invokestatic 328, 3) := by decide +kernel
theorem dX12_server_70 : decode cX12_server 70 = .ok (.irem, 1) := by decide +kernel
theorem dX12_server_71 : decode cX12_server 71 = .ok (.invokevirtual 324, 3) := by decide +kernel
theorem dX12_server_74 : decode cX12_server 74 = .ok (.ireturn, 1) := by decide +kernel
theorem dX12_server_75 : decode cX12_server 75 = .ok (.iconst (-1), 1) := by decide +kernel
theorem dX12_server_76 : decode cX12_server 76 = .ok (.istore 4, 2) := by decide +kernel
theorem dX12_server_78 : decode cX12_server 78 = .ok (.iconst 0, 1) := by decide +kernel
theorem dX12_server_79 : decode cX12_server 79 = .ok (.istore 5, 2) := by decide +kernel
theorem dX12_server_81 : decode cX12_server 81 = .ok (.iconst 0, 1) := by decide +kernel
theorem dX12_server_82 : decode cX12_server 82 = .ok (.istore 6, 2) := by decide +kernel
theorem dX12_server_84 : decode cX12_server 84 = .ok (.iconst 0, 1) := by decide +kernel
theorem dX12_server_85 : decode cX12_server 85 = .ok (.istore 7, 2) := by decide +kernel
theorem dX12_server_87 : decode cX12_server 87 = .ok (.iload 7, 2) := by decide +kernel
theorem dX12_server_89 : decode cX12_server 89 = .ok (.aload_n 0, 1) := by decide +kernel
theorem dX12_server_90 : decode cX12_server 90 = .ok (.getfield 165, 3) := by decide +kernel
theorem dX12_server_93 : decode cX12_server 93 = .ok (.if_icmp .ge 80, 3) := by decide +kernel
theorem dX12_server_96 : decode cX12_server 96 = .ok (.iload_n 2, 1) := by decide +kernel
theorem dX12_server_97 : decode cX12_server 97 = .ok (.iload 7, 2) := by decide +kernel
theorem dX12_server_99 : decode cX12_server 99 = .ok (.ishr, 1) := by decide +kernel
theorem dX12_server_100 : decode cX12_server 100 = .ok (.iconst 1, 1) := by decide +kernel
theorem dX12_server_101 : decode cX12_server 101 = .ok (.iand, 1) := by decide +kernel
theorem dX12_server_102 : decode cX12_server 102 = .ok (.ifCond .ne 6, 3) := by decide +kernel
theorem dX12_server_105 : decode cX12_server 105 = .ok (.goto 62, 3) := by decide +kernel
theorem dX12_server_108 : decode cX12_server 108 = .ok (.aload_n 0, 1) := by decide +kernel
theorem dX12_server_109 : decode cX12_server 109 = .ok (.iload 7, 2) := by decide +kernel
theorem dX12_server_111 : decode cX12_server 111 = .ok (.iload_n 1, 1) := by decide +kernel
theorem dX12_server_112 : decode cX12_server 112 = .ok (.invokevirtual 331, 3) := by decide +kernel
theorem dX12_server_115 : decode cX12_server 115 = .ok (.iload 4, 2) := by decide +kernel
theorem dX12_server_117 : decode cX12_server 117 = .ok (.iconst (-1), 1) := by decide +kernel
theorem dX12_server_118 : decode cX12_server 118 = .ok (.if_icmp .eq 33, 3) := by decide +kernel
theorem dX12_server_121 : decode cX12_server 121 = .ok (.aload_n 0, 1) := by decide +kernel
theorem dX12_server_122 : decode cX12_server 122 = .ok (.getfield 318, 3) := by decide +kernel
theorem dX12_server_125 : decode cX12_server 125 = .ok (.iload 5, 2) := by decide +kernel
theorem dX12_server_127 : decode cX12_server 127 = .ok (.if_icmp .gt 40, 3) := by decide +kernel
theorem dX12_server_130 : decode cX12_server 130 = .ok (.aload_n 0, 1) := by decide +kernel
theorem dX12_server_131 : decode cX12_server 131 = .ok (.getfield 318, 3) := by decide +kernel
theorem dX12_server_134 : decode cX12_server 134 = .ok (.iload 5, 2) := by decide +kernel
theorem dX12_server_136 : decode cX12_server 136 = .ok (.if_icmp .ne 15, 3) := by decide +kernel
theorem dX12_server_139 : decode cX12_server 139 = .ok (.aload_n 0, 1) := by decide +kernel
theorem dX12_server_140 : decode cX12_server 140 = .ok (.getfield 321, 3) := by decide +kernel
theorem dX12_server_143 : decode cX12_server 143 = .ok (.iload 6, 2) := by decide +kernel
theorem dX12_server_145 : decode cX12_server 145 = .ok (.if_icmp .lt 6, 3) := by decide +kernel
theorem dX12_server_148 : decode cX12_server 148 = .ok (.goto 19, 3) := by decide +kernel
theorem dX12_server_151 : decode cX12_server 151 = .ok (.iload 7, 2) := by decide +kernel
theorem dX12_server_153 : decode cX12_server 153 = .ok (.istore 4, 2) := by decide +kernel
theorem dX12_server_155 : decode cX12_server 155 = .ok (.aload_n 0, 1) := by decide +kernel
theorem dX12_server_156 : decode cX12_server 156 = .ok (.getfield 318, 3) := by decide +kernel
theorem dX12_server_159 : decode cX12_server 159 = .ok (.istore 5, 2) := by decide +kernel
theorem dX12_server_161 : decode cX12_server 161 = .ok (.aload_n 0, 1) := by decide +kernel
theorem dX12_server_162 : decode cX12_server 162 = .ok (.getfield 321, 3) := by decide +kernel
theorem dX12_server_165 : decode cX12_server 165 = .ok (.istore 6, 2) := by decide +kernel
theorem dX12_server_167 : decode cX12_server 167 = .ok (.iinc 7 1, 3) := by decide +kernel
theorem dX12_server_170 : decode cX12_server 170 = .ok (.goto (-83), 3) := by decide +kernel
theorem dX12_server_173 : decode cX12_server 173 = .ok (.iload 4, 2) := by decide +kernel
theorem dX12_server_175 : decode cX12_server 175 = .ok (.ireturn, 1) := by decide +kernel
theorem dX12_pays_0 : decode cX12_pays 0 = .ok (.aload_n 0, 1) := by decide +kernel
theorem dX12_pays_1 : decode cX12_pays 1 = .ok (.iload_n 1, 1) := by decide +kernel
theorem dX12_pays_2 : decode cX12_pays 2 = .ok (.iload_n 2, 1) := by decide +kernel
theorem dX12_pays_3 : decode cX12_pays 3 = .ok (.aload_n 0, 1) := by decide +kernel
theorem dX12_pays_4 : decode cX12_pays 4 = .ok (.getfield 318, 3) := by decide +kernel
theorem dX12_pays_7 : decode cX12_pays 7 = .ok (.invokevirtual 311, 3) := by decide +kernel
theorem dX12_pays_10 : decode cX12_pays 10 = .ok (.aload_n 0, 1) := by decide +kernel
theorem dX12_pays_11 : decode cX12_pays 11 = .ok (.bipush 10, 2) := by decide +kernel
theorem dX12_pays_13 : decode cX12_pays 13 = .ok (.bipush 103, 2) := by decide +kernel
theorem dX12_pays_15 : decode cX12_pays 15 = .ok (.sipush 10000, 3) := by decide +kernel
theorem dX12_pays_18 : decode cX12_pays 18 = .ok (.invokevirtual 315, 3) := by decide +kernel
theorem dX12_pays_21 : decode cX12_pays 21 = .ok (.istore_n 3, 1) := by decide +kernel
theorem dX12_pays_22 : decode cX12_pays 22 = .ok (.aload_n 0, 1) := by decide +kernel
theorem dX12_pays_23 : decode cX12_pays 23 = .ok (.bipush 10, 2) := by decide +kernel
theorem dX12_pays_25 : decode cX12_pays 25 = .ok (.bipush 107, 2) := by decide +kernel
theorem dX12_pays_27 : decode cX12_pays 27 = .ok (.sipush 10000, 3) := by decide +kernel
theorem dX12_pays_30 : decode cX12_pays 30 = .ok (.invokevirtual 315, 3) := by decide +kernel
theorem dX12_pays_33 : decode cX12_pays 33 = .ok (.istore 4, 2) := by decide +kernel
theorem dX12_pays_35 : decode cX12_pays 35 = .ok (.aload_n 0, 1) := by decide +kernel
theorem dX12_pays_36 : decode cX12_pays 36 = .ok (.bipush 10, 2) := by decide +kernel
theorem dX12_pays_38 : decode cX12_pays 38 = .ok (.bipush 98, 2) := by decide +kernel
theorem dX12_pays_40 : decode cX12_pays 40 = .ok (.sipush 10000, 3) := by decide +kernel
theorem dX12_pays_43 : decode cX12_pays 43 = .ok (.invokevirtual 315, 3) := by decide +kernel
theorem dX12_pays_46 : decode cX12_pays 46 = .ok (.istore 5, 2) := by decide +kernel
theorem dX12_pays_48 : decode cX12_pays 48 = .ok (.aload_n 0, 1) := by decide +kernel
theorem dX12_pays_49 : decode cX12_pays 49 = .ok (.getfield 43, 3) := by decide +kernel
theorem dX12_pays_52 : decode cX12_pays 52 = .ok (.iload_n 2, 1) := by decide +kernel
theorem dX12_pays_53 : decode cX12_pays 53 = .ok (.aload_n 0, 1) := by decide +kernel
theorem dX12_pays_54 : decode cX12_pays 54 = .ok (.getfield 43, 3) := by decide +kernel
theorem dX12_pays_57 : decode cX12_pays 57 = .ok (.iload_n 2, 1) := by decide +kernel
theorem dX12_pays_58 : decode cX12_pays 58 = .ok (.iaload, 1) := by decide +kernel
theorem dX12_pays_59 : decode cX12_pays 59 = .ok (.aload_n 0, 1) := by decide +kernel
theorem dX12_pays_60 : decode cX12_pays 60 = .ok (.getfield 318, 3) := by decide +kernel
theorem dX12_pays_63 : decode cX12_pays 63 = .ok (.isub, 1) := by decide +kernel
theorem dX12_pays_64 : decode cX12_pays 64 = .ok (.iastore, 1) := by decide +kernel
theorem dX12_pays_65 : decode cX12_pays 65 = .ok (.aload_n 0, 1) := by decide +kernel
theorem dX12_pays_66 : decode cX12_pays 66 = .ok (.getfield 49, 3) := by decide +kernel
theorem dX12_pays_69 : decode cX12_pays 69 = .ok (.iload_n 2, 1) := by decide +kernel
theorem dX12_pays_70 : decode cX12_pays 70 = .ok (.aload_n 0, 1) := by decide +kernel
theorem dX12_pays_71 : decode cX12_pays 71 = .ok (.getfield 49, 3) := by decide +kernel
theorem dX12_pays_74 : decode cX12_pays 74 = .ok (.iload_n 2, 1) := by decide +kernel
theorem dX12_pays_75 : decode cX12_pays 75 = .ok (.iaload, 1) := by decide +kernel
theorem dX12_pays_76 : decode cX12_pays 76 = .ok (.aload_n 0, 1) := by decide +kernel
theorem dX12_pays_77 : decode cX12_pays 77 = .ok (.getfield 318, 3) := by decide +kernel
theorem dX12_pays_80 : decode cX12_pays 80 = .ok (.iadd, 1) := by decide +kernel
theorem dX12_pays_81 : decode cX12_pays 81 = .ok (.iastore, 1) := by decide +kernel
theorem dX12_pays_82 : decode cX12_pays 82 = .ok (.aload_n 0, 1) := by decide +kernel
theorem dX12_pays_83 : decode cX12_pays 83 = .ok (.aload_n 0, 1) := by decide +kernel
theorem dX12_pays_84 : decode cX12_pays 84 = .ok (.getfield 334, 3) := by decide +kernel
theorem dX12_pays_87 : decode cX12_pays 87 = .ok (.aload_n 0, 1) := by decide +kernel
theorem dX12_pays_88 : decode cX12_pays 88 = .ok (.getfield 318, 3) := by decide +kernel
theorem dX12_pays_91 : decode cX12_pays 91 = .ok (.iadd, 1) := by decide +kernel
theorem dX12_pays_92 : decode cX12_pays 92 = .ok (.putfield 334, 3) := by decide +kernel
theorem dX12_pays_95 : decode cX12_pays 95 = .ok (.aload_n 0, 1) := by decide +kernel
theorem dX12_pays_96 : decode cX12_pays 96 = .ok (.getfield 16, 3) := by decide +kernel
theorem dX12_pays_99 : decode cX12_pays 99 = .ok (.iload_n 1, 1) := by decide +kernel
theorem dX12_pays_100 : decode cX12_pays 100 = .ok (.aload_n 0, 1) := by decide +kernel
theorem dX12_pays_101 : decode cX12_pays 101 = .ok (.getfield 16, 3) := by decide +kernel
theorem dX12_pays_104 : decode cX12_pays 104 = .ok (.iload_n 1, 1) := by decide +kernel
theorem dX12_pays_105 : decode cX12_pays 105 = .ok (.iaload, 1) := by decide +kernel
theorem dX12_pays_106 : decode cX12_pays 106 = .ok (.aload_n 0, 1) := by decide +kernel
theorem dX12_pays_107 : decode cX12_pays 107 = .ok (.getfield 318, 3) := by decide +kernel
theorem dX12_pays_110 : decode cX12_pays 110 = .ok (.iadd, 1) := by decide +kernel
theorem dX12_pays_111 : decode cX12_pays 111 = .ok (.iastore, 1) := by decide +kernel
theorem dX12_pays_112 : decode cX12_pays 112 = .ok (.aload_n 0, 1) := by decide +kernel
theorem dX12_pays_113 : decode cX12_pays 113 = .ok (.getfield 19, 3) := by decide +kernel
theorem dX12_pays_116 : decode cX12_pays 116 = .ok (.iload_n 1, 1) := by decide +kernel
theorem dX12_pays_117 : decode cX12_pays 117 = .ok (.aload_n 0, 1) := by decide +kernel
theorem dX12_pays_118 : decode cX12_pays 118 = .ok (.getfield 19, 3) := by decide +kernel
theorem dX12_pays_121 : decode cX12_pays 121 = .ok (.iload_n 1, 1) := by decide +kernel
theorem dX12_pays_122 : decode cX12_pays 122 = .ok (.iaload, 1) := by decide +kernel
theorem dX12_pays_123 : decode cX12_pays 123 = .ok (.iconst 1, 1) := by decide +kernel
theorem dX12_pays_124 : decode cX12_pays 124 = .ok (.iadd, 1) := by decide +kernel
theorem dX12_pays_125 : decode cX12_pays 125 = .ok (.iastore, 1) := by decide +kernel
theorem dX12_pays_126 : decode cX12_pays 126 = .ok (.aload_n 0, 1) := by decide +kernel
theorem dX12_pays_127 : decode cX12_pays 127 = .ok (.aload_n 0, 1) := by decide +kernel
theorem dX12_pays_128 : decode cX12_pays 128 = .ok (.getfield 337, 3) := by decide +kernel
theorem dX12_pays_131 : decode cX12_pays 131 = .ok (.iconst 1, 1) := by decide +kernel
theorem dX12_pays_132 : decode cX12_pays 132 = .ok (.iload_n 1, 1) := by decide +kernel
theorem dX12_pays_133 : decode cX12_pays 133 = .ok (.ishl, 1) := by decide +kernel
theorem dX12_pays_134 : decode cX12_pays 134 = .ok (.ior, 1) := by decide +kernel
theorem dX12_pays_135 : decode cX12_pays 135 = .ok (.putfield 337, 3) := by decide +kernel
theorem dX12_pays_138 : decode cX12_pays 138 = .ok (.iload 5, 2) := by decide +kernel
theorem dX12_pays_140 : decode cX12_pays 140 = .ok (.iload_n 3, 1) := by decide +kernel
theorem dX12_pays_141 : decode cX12_pays 141 = .ok (.if_icmp .gt 4, 3) := by decide +kernel
theorem dX12_pays_144 : decode cX12_pays 144 = .ok (.return_, 1) := by decide +kernel
theorem dX12_pays_145 : decode cX12_pays 145 = .ok (.aload_n 0, 1) := by decide +kernel
theorem dX12_pays_146 : decode cX12_pays 146 = .ok (.getfield 52, 3) := by decide +kernel
theorem dX12_pays_149 : decode cX12_pays 149 = .ok (.iload_n 2, 1) := by decide +kernel
theorem dX12_pays_150 : decode cX12_pays 150 = .ok (.aload_n 0, 1) := by decide +kernel
theorem dX12_pays_151 : decode cX12_pays 151 = .ok (.getfield 52, 3) := by decide +kernel
theorem dX12_pays_154 : decode cX12_pays 154 = .ok (.iload_n 2, 1) := by decide +kernel
theorem dX12_pays_155 : decode cX12_pays 155 = .ok (.iaload, 1) := by decide +kernel
theorem dX12_pays_156 : decode cX12_pays 156 = .ok (.iconst 1, 1) := by decide +kernel
theorem dX12_pays_157 : decode cX12_pays 157 = .ok (.iadd, 1) := by decide +kernel
theorem dX12_pays_158 : decode cX12_pays 158 = .ok (.iastore, 1) := by decide +kernel
theorem dX12_pays_159 : decode cX12_pays 159 = .ok (.aload_n 0, 1) := by decide +kernel
theorem dX12_pays_160 : decode cX12_pays 160 = .ok (.getfield 43, 3) := by decide +kernel
theorem dX12_pays_163 : decode cX12_pays 163 = .ok (.iload_n 2, 1) := by decide +kernel
theorem dX12_pays_164 : decode cX12_pays 164 = .ok (.aload_n 0, 1) := by decide +kernel
theorem dX12_pays_165 : decode cX12_pays 165 = .ok (.getfield 43, 3) := by decide +kernel
theorem dX12_pays_168 : decode cX12_pays 168 = .ok (.iload_n 2, 1) := by decide +kernel
theorem dX12_pays_169 : decode cX12_pays 169 = .ok (.iaload, 1) := by decide +kernel
theorem dX12_pays_170 : decode cX12_pays 170 = .ok (.iload_n 3, 1) := by decide +kernel
theorem dX12_pays_171 : decode cX12_pays 171 = .ok (.isub, 1) := by decide +kernel
theorem dX12_pays_172 : decode cX12_pays 172 = .ok (.iload 5, 2) := by decide +kernel
theorem dX12_pays_174 : decode cX12_pays 174 = .ok (.iadd, 1) := by decide +kernel
theorem dX12_pays_175 : decode cX12_pays 175 = .ok (.iastore, 1) := by decide +kernel
theorem dX12_pays_176 : decode cX12_pays 176 = .ok (.aload_n 0, 1) := by decide +kernel
theorem dX12_pays_177 : decode cX12_pays 177 = .ok (.getfield 16, 3) := by decide +kernel
theorem dX12_pays_180 : decode cX12_pays 180 = .ok (.iload_n 1, 1) := by decide +kernel
theorem dX12_pays_181 : decode cX12_pays 181 = .ok (.aload_n 0, 1) := by decide +kernel
theorem dX12_pays_182 : decode cX12_pays 182 = .ok (.getfield 16, 3) := by decide +kernel
theorem dX12_pays_185 : decode cX12_pays 185 = .ok (.iload_n 1, 1) := by decide +kernel
theorem dX12_pays_186 : decode cX12_pays 186 = .ok (.iaload, 1) := by decide +kernel
theorem dX12_pays_187 : decode cX12_pays 187 = .ok (.iload 5, 2) := by decide +kernel
theorem dX12_pays_189 : decode cX12_pays 189 = .ok (.isub, 1) := by decide +kernel
theorem dX12_pays_190 : decode cX12_pays 190 = .ok (.iload 4, 2) := by decide +kernel
theorem dX12_pays_192 : decode cX12_pays 192 = .ok (.isub, 1) := by decide +kernel
theorem dX12_pays_193 : decode cX12_pays 193 = .ok (.iastore, 1) := by decide +kernel
theorem dX12_pays_194 : decode cX12_pays 194 = .ok (.return_, 1) := by decide +kernel
theorem dX12_goesOn_0 : decode cX12_goesOn 0 = .ok (.aload_n 0, 1) := by decide +kernel
theorem dX12_goesOn_1 : decode cX12_goesOn 1 = .ok (.getfield 40, 3) := by decide +kernel
theorem dX12_goesOn_4 : decode cX12_goesOn 4 = .ok (.iload_n 1, 1) := by decide +kernel
theorem dX12_goesOn_5 : decode cX12_goesOn 5 = .ok (.aload_n 0, 1) := by decide +kernel
theorem dX12_goesOn_6 : decode cX12_goesOn 6 = .ok (.getfield 40, 3) := by decide +kernel
theorem dX12_goesOn_9 : decode cX12_goesOn 9 = .ok (.iload_n 1, 1) := by decide +kernel
theorem dX12_goesOn_10 : decode cX12_goesOn 10 = .ok (.iaload, 1) := by decide +kernel
theorem dX12_goesOn_11 : decode cX12_goesOn 11 = .ok (.iconst 1, 1) := by decide +kernel
theorem dX12_goesOn_12 : decode cX12_goesOn 12 = .ok (.iadd, 1) := by decide +kernel
theorem dX12_goesOn_13 : decode cX12_goesOn 13 = .ok (.iastore, 1) := by decide +kernel
theorem dX12_goesOn_14 : decode cX12_goesOn 14 = .ok (.aload_n 0, 1) := by decide +kernel
theorem dX12_goesOn_15 : decode cX12_goesOn 15 = .ok (.getfield 46, 3) := by decide +kernel
theorem dX12_goesOn_18 : decode cX12_goesOn 18 = .ok (.iload_n 1, 1) := by decide +kernel
theorem dX12_goesOn_19 : decode cX12_goesOn 19 = .ok (.iconst 0, 1) := by decide +kernel
theorem dX12_goesOn_20 : decode cX12_goesOn 20 = .ok (.iastore, 1) := by decide +kernel
theorem dX12_goesOn_21 : decode cX12_goesOn 21 = .ok (.aload_n 0, 1) := by decide +kernel
theorem dX12_goesOn_22 : decode cX12_goesOn 22 = .ok (.getfield 40, 3) := by decide +kernel
theorem dX12_goesOn_25 : decode cX12_goesOn 25 = .ok (.iload_n 1, 1) := by decide +kernel
theorem dX12_goesOn_26 : decode cX12_goesOn 26 = .ok (.iaload, 1) := by decide +kernel
theorem dX12_goesOn_27 : decode cX12_goesOn 27 = .ok (.aload_n 0, 1) := by decide +kernel
theorem dX12_goesOn_28 : decode cX12_goesOn 28 = .ok (.getfield 168, 3) := by decide +kernel
theorem dX12_goesOn_31 : decode cX12_goesOn 31 = .ok (.if_icmp .ne 13, 3) := by decide +kernel
