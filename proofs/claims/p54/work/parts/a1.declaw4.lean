theorem dL_foretold_95 : decode cL_foretold 95 = .ok (.aload_n 0, 1) := by decide +kernel
theorem dL_foretold_96 : decode cL_foretold 96 = .ok (.iload 4, 2) := by decide +kernel
theorem dL_foretold_98 : decode cL_foretold 98 = .ok (.iconst 5, 1) := by decide +kernel
theorem dL_foretold_99 : decode cL_foretold 99 = .ok (.invokevirtual 135, 3) := by decide +kernel
theorem dL_foretold_102 : decode cL_foretold 102 = .ok (.iload 6, 2) := by decide +kernel
theorem dL_foretold_104 : decode cL_foretold 104 = .ok (.if_icmp .ne 14, 3) := by decide +kernel
theorem dL_foretold_107 : decode cL_foretold 107 = .ok (.aload_n 0, 1) := by decide +kernel
theorem dL_foretold_108 : decode cL_foretold 108 = .ok (.invokevirtual 231, 3) := by decide +kernel
theorem dL_foretold_111 : decode cL_foretold 111 = .ok (.ifCond .lt 7, 3) := by decide +kernel
theorem dL_foretold_114 : decode cL_foretold 114 = .ok (.iconst 1, 1) := by decide +kernel
theorem dL_foretold_115 : decode cL_foretold 115 = .ok (.goto 4, 3) := by decide +kernel
theorem dL_foretold_118 : decode cL_foretold 118 = .ok (.iconst 0, 1) := by decide +kernel
theorem dL_foretold_119 : decode cL_foretold 119 = .ok (.istore 9, 2) := by decide +kernel
theorem dL_foretold_121 : decode cL_foretold 121 = .ok (.aload_n 0, 1) := by decide +kernel
theorem dL_foretold_122 : decode cL_foretold 122 = .ok (.bipush 8, 2) := by decide +kernel
theorem dL_foretold_124 : decode cL_foretold 124 = .ok (.invokevirtual 40, 3) := by decide +kernel
theorem dL_foretold_127 : decode cL_foretold 127 = .ok (.iconst 1, 1) := by decide +kernel
theorem dL_foretold_128 : decode cL_foretold 128 = .ok (.if_icmp .ne 196, 3) := by decide +kernel
theorem dL_foretold_131 : decode cL_foretold 131 = .ok (.iload 9, 2) := by decide +kernel
theorem dL_foretold_133 : decode cL_foretold 133 = .ok (.ifCond .eq 191, 3) := by decide +kernel
theorem dL_foretold_136 : decode cL_foretold 136 = .ok (.aload_n 0, 1) := by decide +kernel
theorem dL_foretold_137 : decode cL_foretold 137 = .ok (.invokevirtual 199, 3) := by decide +kernel
theorem dL_foretold_140 : decode cL_foretold 140 = .ok (.istore 10, 2) := by decide +kernel
theorem dL_foretold_142 : decode cL_foretold 142 = .ok (.aload_n 0, 1) := by decide +kernel
theorem dL_foretold_143 : decode cL_foretold 143 = .ok (.invokevirtual 234, 3) := by decide +kernel
theorem dL_foretold_146 : decode cL_foretold 146 = .ok (.istore 11, 2) := by decide +kernel
theorem dL_foretold_148 : decode cL_foretold 148 = .ok (.aload_n 0, 1) := by decide +kernel
theorem dL_foretold_149 : decode cL_foretold 149 = .ok (.iload 5, 2) := by decide +kernel
theorem dL_foretold_151 : decode cL_foretold 151 = .ok (.invokevirtual 237, 3) := by decide +kernel
theorem dL_foretold_154 : decode cL_foretold 154 = .ok (.ifCond .eq 7, 3) := by decide +kernel
theorem dL_foretold_157 : decode cL_foretold 157 = .ok (.iconst 1, 1) := by decide +kernel
theorem dL_foretold_158 : decode cL_foretold 158 = .ok (.goto 4, 3) := by decide +kernel
theorem dL_foretold_161 : decode cL_foretold 161 = .ok (.iconst 0, 1) := by decide +kernel
theorem dL_foretold_162 : decode cL_foretold 162 = .ok (.istore 12, 2) := by decide +kernel
theorem dL_foretold_164 : decode cL_foretold 164 = .ok (.iload 11, 2) := by decide +kernel
theorem dL_foretold_166 : decode cL_foretold 166 = .ok (.iconst 0, 1) := by decide +kernel
theorem dL_foretold_167 : decode cL_foretold 167 = .ok (.aload_n 0, 1) := by decide +kernel
theorem dL_foretold_168 : decode cL_foretold 168 = .ok (.bipush 6, 2) := by decide +kernel
theorem dL_foretold_170 : decode cL_foretold 170 = .ok (.invokevirtual 40, 3) := by decide +kernel
theorem dL_foretold_173 : decode cL_foretold 173 = .ok (.aload_n 0, 1) := by decide +kernel
theorem dL_foretold_174 : decode cL_foretold 174 = .ok (.bipush 7, 2) := by decide +kernel
theorem dL_foretold_176 : decode cL_foretold 176 = .ok (.invokevirtual 40, 3) := by decide +kernel
theorem dL_foretold_179 : decode cL_foretold 179 = .ok (.isub, 1) := by decide +kernel
theorem dL_foretold_180 : decode cL_foretold 180 = .ok (.invokestatic 187, 3) := by decide +kernel
theorem dL_foretold_183 : decode cL_foretold 183 = .ok (.if_icmp .ne 97, 3) := by decide +kernel
theorem dL_foretold_186 : decode cL_foretold 186 = .ok (.aload_n 0, 1) := by decide +kernel
theorem dL_foretold_187 : decode cL_foretold 187 = .ok (.invokevirtual 141, 3) := by decide +kernel
theorem dL_foretold_190 : decode cL_foretold 190 = .ok (.aload_n 0, 1) := by decide +kernel
theorem dL_foretold_191 : decode cL_foretold 191 = .ok (.bipush 7, 2) := by decide +kernel
theorem dL_foretold_193 : decode cL_foretold 193 = .ok (.invokevirtual 40, 3) := by decide +kernel
theorem dL_foretold_196 : decode cL_foretold 196 = .ok (.if_icmp .ne 84, 3) := by decide +kernel
theorem dL_foretold_199 : decode cL_foretold 199 = .ok (.aload_n 0, 1) := by decide +kernel
theorem dL_foretold_200 : decode cL_foretold 200 = .ok (.bipush 10, 2) := by decide +kernel
theorem dL_foretold_202 : decode cL_foretold 202 = .ok (.invokevirtual 40, 3) := by decide +kernel
theorem dL_foretold_205 : decode cL_foretold 205 = .ok (.iload 10, 2) := by decide +kernel
theorem dL_foretold_207 : decode cL_foretold 207 = .ok (.if_icmp .ne 73, 3) := by decide +kernel
theorem dL_foretold_210 : decode cL_foretold 210 = .ok (.iload 11, 2) := by decide +kernel
theorem dL_foretold_212 : decode cL_foretold 212 = .ok (.ifCond .ne 7, 3) := by decide +kernel
theorem dL_foretold_215 : decode cL_foretold 215 = .ok (.iconst 1, 1) := by decide +kernel
theorem dL_foretold_216 : decode cL_foretold 216 = .ok (.goto 4, 3) := by decide +kernel
theorem dL_foretold_219 : decode cL_foretold 219 = .ok (.iconst 0, 1) := by decide +kernel
theorem dL_foretold_220 : decode cL_foretold 220 = .ok (.iload 10, 2) := by decide +kernel
theorem dL_foretold_222 : decode cL_foretold 222 = .ok (.ifCond .ge 21, 3) := by decide +kernel
theorem dL_foretold_225 : decode cL_foretold 225 = .ok (.aload_n 0, 1) := by decide +kernel
theorem dL_foretold_226 : decode cL_foretold 226 = .ok (.bipush 7, 2) := by decide +kernel
theorem dL_foretold_228 : decode cL_foretold 228 = .ok (.invokevirtual 40, 3) := by decide +kernel
theorem dL_foretold_231 : decode cL_foretold 231 = .ok (.ifCond .ne 16, 3) := by decide +kernel
theorem dL_foretold_234 : decode cL_foretold 234 = .ok (.aload_n 0, 1) := by decide +kernel
theorem dL_foretold_235 : decode cL_foretold 235 = .ok (.bipush 6, 2) := by decide +kernel
theorem dL_foretold_237 : decode cL_foretold 237 = .ok (.invokevirtual 40, 3) := by decide +kernel
theorem dL_foretold_240 : decode cL_foretold 240 = .ok (.ifCond .ne 7, 3) := by decide +kernel
theorem dL_foretold_243 : decode cL_foretold 243 = .ok (.iconst 1, 1) := by decide +kernel
theorem dL_foretold_244 : decode cL_foretold 244 = .ok (.goto 4, 3) := by decide +kernel
theorem dL_foretold_247 : decode cL_foretold 247 = .ok (.iconst 0, 1) := by decide +kernel
theorem dL_foretold_248 : decode cL_foretold 248 = .ok (.if_icmp .ne 32, 3) := by decide +kernel
theorem dL_foretold_251 : decode cL_foretold 251 = .ok (.aload_n 0, 1) := by decide +kernel
theorem dL_foretold_252 : decode cL_foretold 252 = .ok (.aload_n 0, 1) := by decide +kernel
theorem dL_foretold_253 : decode cL_foretold 253 = .ok (.bipush 13, 2) := by decide +kernel
theorem dL_foretold_255 : decode cL_foretold 255 = .ok (.invokevirtual 40, 3) := by decide +kernel
theorem dL_foretold_258 : decode cL_foretold 258 = .ok (.iconst 1, 1) := by decide +kernel
theorem dL_foretold_259 : decode cL_foretold 259 = .ok (.isub, 1) := by decide +kernel
theorem dL_foretold_260 : decode cL_foretold 260 = .ok (.iconst 3, 1) := by decide +kernel
theorem dL_foretold_261 : decode cL_foretold 261 = .ok (.invokevirtual 221, 3) := by decide +kernel
theorem dL_foretold_264 : decode cL_foretold 264 = .ok (.iload 10, 2) := by decide +kernel
theorem dL_foretold_266 : decode cL_foretold 266 = .ok (.if_icmp .ne 14, 3) := by decide +kernel
theorem dL_foretold_269 : decode cL_foretold 269 = .ok (.aload_n 0, 1) := by decide +kernel
theorem dL_foretold_270 : decode cL_foretold 270 = .ok (.invokevirtual 231, 3) := by decide +kernel
theorem dL_foretold_273 : decode cL_foretold 273 = .ok (.ifCond .lt 7, 3) := by decide +kernel
theorem dL_foretold_276 : decode cL_foretold 276 = .ok (.iconst 1, 1) := by decide +kernel
theorem dL_foretold_277 : decode cL_foretold 277 = .ok (.goto 4, 3) := by decide +kernel
theorem dL_foretold_280 : decode cL_foretold 280 = .ok (.iconst 0, 1) := by decide +kernel
theorem dL_foretold_281 : decode cL_foretold 281 = .ok (.istore 9, 2) := by decide +kernel
theorem dL_foretold_283 : decode cL_foretold 283 = .ok (.iload 9, 2) := by decide +kernel
theorem dL_foretold_285 : decode cL_foretold 285 = .ok (.ifCond .eq 36, 3) := by decide +kernel
theorem dL_foretold_288 : decode cL_foretold 288 = .ok (.iload 12, 2) := by decide +kernel
theorem dL_foretold_290 : decode cL_foretold 290 = .ok (.ifCond .eq 14, 3) := by decide +kernel
theorem dL_foretold_293 : decode cL_foretold 293 = .ok (.iload 5, 2) := by decide +kernel
theorem dL_foretold_295 : decode cL_foretold 295 = .ok (.aload_n 0, 1) := by decide +kernel
theorem dL_foretold_296 : decode cL_foretold 296 = .ok (.bipush 9, 2) := by decide +kernel
theorem dL_foretold_298 : decode cL_foretold 298 = .ok (.invokevirtual 40, 3) := by decide +kernel
theorem dL_foretold_301 : decode cL_foretold 301 = .ok (.if_icmp .ge 20, 3) := by decide +kernel
theorem dL_foretold_304 : decode cL_foretold 304 = .ok (.iload 10, 2) := by decide +kernel
theorem dL_foretold_306 : decode cL_foretold 306 = .ok (.iload 5, 2) := by decide +kernel
theorem dL_foretold_308 : decode cL_foretold 308 = .ok (.if_icmp .ne 9, 3) := by decide +kernel
theorem dL_foretold_311 : decode cL_foretold 311 = .ok (.iload 12, 2) := by decide +kernel
theorem dL_foretold_313 : decode cL_foretold 313 = .ok (.iconst 1, 1) := by decide +kernel
theorem dL_foretold_314 : decode cL_foretold 314 = .ok (.if_icmp .ne 7, 3) := by decide +kernel
theorem dL_foretold_317 : decode cL_foretold 317 = .ok (.iconst 1, 1) := by decide +kernel
theorem dL_foretold_318 : decode cL_foretold 318 = .ok (.goto 4, 3) := by decide +kernel
theorem dL_foretold_321 : decode cL_foretold 321 = .ok (.iconst 0, 1) := by decide +kernel
theorem dL_foretold_322 : decode cL_foretold 322 = .ok (.istore 9, 2) := by decide +kernel
theorem dL_foretold_324 : decode cL_foretold 324 = .ok (.aload_n 0, 1) := by decide +kernel
theorem dL_foretold_325 : decode cL_foretold 325 = .ok (.invokevirtual 206, 3) := by decide +kernel
theorem dL_foretold_328 : decode cL_foretold 328 = .ok (.istore 10, 2) := by decide +kernel
theorem dL_foretold_330 : decode cL_foretold 330 = .ok (.aload_n 0, 1) := by decide +kernel
theorem dL_foretold_331 : decode cL_foretold 331 = .ok (.bipush 16, 2) := by decide +kernel
theorem dL_foretold_333 : decode cL_foretold 333 = .ok (.invokevirtual 40, 3) := by decide +kernel
theorem dL_foretold_336 : decode cL_foretold 336 = .ok (.istore 11, 2) := by decide +kernel
theorem dL_foretold_338 : decode cL_foretold 338 = .ok (.aload_n 0, 1) := by decide +kernel
theorem dL_foretold_339 : decode cL_foretold 339 = .ok (.bipush 8, 2) := by decide +kernel
theorem dL_foretold_341 : decode cL_foretold 341 = .ok (.invokevirtual 40, 3) := by decide +kernel
theorem dL_foretold_344 : decode cL_foretold 344 = .ok (.iconst 2, 1) := by decide +kernel
theorem dL_foretold_345 : decode cL_foretold 345 = .ok (.if_icmp .ne 67, 3) := by decide +kernel
theorem dL_foretold_348 : decode cL_foretold 348 = .ok (.aload_n 0, 1) := by decide +kernel
theorem dL_foretold_349 : decode cL_foretold 349 = .ok (.bipush 12, 2) := by decide +kernel
theorem dL_foretold_351 : decode cL_foretold 351 = .ok (.invokevirtual 40, 3) := by decide +kernel
theorem dL_foretold_354 : decode cL_foretold 354 = .ok (.aload_n 0, 1) := by decide +kernel
theorem dL_foretold_355 : decode cL_foretold 355 = .ok (.bipush 9, 2) := by decide +kernel
theorem dL_foretold_357 : decode cL_foretold 357 = .ok (.invokevirtual 184, 3) := by decide +kernel
theorem dL_foretold_360 : decode cL_foretold 360 = .ok (.if_icmp .ge 52, 3) := by decide +kernel
theorem dL_foretold_363 : decode cL_foretold 363 = .ok (.iload 9, 2) := by decide +kernel
theorem dL_foretold_365 : decode cL_foretold 365 = .ok (.ifCond .eq 47, 3) := by decide +kernel
theorem dL_foretold_368 : decode cL_foretold 368 = .ok (.aload_n 0, 1) := by decide +kernel
theorem dL_foretold_369 : decode cL_foretold 369 = .ok (.invokevirtual 144, 3) := by decide +kernel
theorem dL_foretold_372 : decode cL_foretold 372 = .ok (.iload 11, 2) := by decide +kernel
theorem dL_foretold_374 : decode cL_foretold 374 = .ok (.if_icmp .ne 32, 3) := by decide +kernel
theorem dL_foretold_377 : decode cL_foretold 377 = .ok (.aload_n 0, 1) := by decide +kernel
theorem dL_foretold_378 : decode cL_foretold 378 = .ok (.bipush 10, 2) := by decide +kernel
theorem dL_foretold_380 : decode cL_foretold 380 = .ok (.invokevirtual 40, 3) := by decide +kernel
theorem dL_foretold_383 : decode cL_foretold 383 = .ok (.iload 10, 2) := by decide +kernel
theorem dL_foretold_385 : decode cL_foretold 385 = .ok (.if_icmp .ne 21, 3) := by decide +kernel
theorem dL_foretold_388 : decode cL_foretold 388 = .ok (.aload_n 0, 1) := by decide +kernel
theorem dL_foretold_389 : decode cL_foretold 389 = .ok (.invokevirtual 192, 3) := by decide +kernel
theorem dL_foretold_392 : decode cL_foretold 392 = .ok (.ifCond .ne 14, 3) := by decide +kernel
theorem dL_foretold_395 : decode cL_foretold 395 = .ok (.aload_n 0, 1) := by decide +kernel
theorem dL_foretold_396 : decode cL_foretold 396 = .ok (.invokevirtual 231, 3) := by decide +kernel
theorem dL_foretold_399 : decode cL_foretold 399 = .ok (.ifCond .lt 7, 3) := by decide +kernel
theorem dL_foretold_402 : decode cL_foretold 402 = .ok (.iconst 1, 1) := by decide +kernel
theorem dL_foretold_403 : decode cL_foretold 403 = .ok (.goto 4, 3) := by decide +kernel
theorem dL_foretold_406 : decode cL_foretold 406 = .ok (.iconst 0, 1) := by decide +kernel
theorem dL_foretold_407 : decode cL_foretold 407 = .ok (.istore 9, 2) := by decide +kernel
theorem dL_foretold_409 : decode cL_foretold 409 = .ok (.goto 24, 3) := by decide +kernel
theorem dL_foretold_412 : decode cL_foretold 412 = .ok (.iload 9, 2) := by decide +kernel
theorem dL_foretold_414 : decode cL_foretold 414 = .ok (.ifCond .eq 16, 3) := by decide +kernel
theorem dL_foretold_417 : decode cL_foretold 417 = .ok (.aload_n 0, 1) := by decide +kernel
theorem dL_foretold_418 : decode cL_foretold 418 = .ok (.invokevirtual 144, 3) := by decide +kernel
theorem dL_foretold_421 : decode cL_foretold 421 = .ok (.bipush (-5), 2) := by decide +kernel
theorem dL_foretold_423 : decode cL_foretold 423 = .ok (.if_icmp .ne 7, 3) := by decide +kernel
theorem dL_foretold_426 : decode cL_foretold 426 = .ok (.iconst 1, 1) := by decide +kernel
theorem dL_foretold_427 : decode cL_foretold 427 = .ok (.goto 4, 3) := by decide +kernel
theorem dL_foretold_430 : decode cL_foretold 430 = .ok (.iconst 0, 1) := by decide +kernel
theorem dL_foretold_431 : decode cL_foretold 431 = .ok (.istore 9, 2) := by decide +kernel
theorem dL_foretold_433 : decode cL_foretold 433 = .ok (.iconst 1, 1) := by decide +kernel
theorem dL_foretold_434 : decode cL_foretold 434 = .ok (.aload_n 1, 1) := by decide +kernel
theorem dL_foretold_435 : decode cL_foretold 435 = .ok (.invokestatic 53, 3) := by decide +kernel
theorem dL_foretold_438 : decode cL_foretold 438 = .ok (.bipush 30, 2) := by decide +kernel
theorem dL_foretold_440 : decode cL_foretold 440 = .ok (.irem, 1) := by decide +kernel
theorem dL_foretold_441 : decode cL_foretold 441 = .ok (.iadd, 1) := by decide +kernel
theorem dL_foretold_442 : decode cL_foretold 442 = .ok (.istore 12, 2) := by decide +kernel
theorem dL_foretold_444 : decode cL_foretold 444 = .ok (.aload_n 0, 1) := by decide +kernel
theorem dL_foretold_445 : decode cL_foretold 445 = .ok (.iload 12, 2) := by decide +kernel
theorem dL_foretold_447 : decode cL_foretold 447 = .ok (.invokevirtual 241, 3) := by decide +kernel
theorem dL_foretold_450 : decode cL_foretold 450 = .ok (.istore 13, 2) := by decide +kernel
theorem dL_foretold_452 : decode cL_foretold 452 = .ok (.aload_n 0, 1) := by decide +kernel
theorem dL_foretold_453 : decode cL_foretold 453 = .ok (.iload 12, 2) := by decide +kernel
theorem dL_foretold_455 : decode cL_foretold 455 = .ok (.invokevirtual 174, 3) := by decide +kernel
theorem dL_foretold_458 : decode cL_foretold 458 = .ok (.istore 14, 2) := by decide +kernel
theorem dL_foretold_460 : decode cL_foretold 460 = .ok (.bipush (-100), 2) := by decide +kernel
theorem dL_foretold_462 : decode cL_foretold 462 = .ok (.istore 15, 2) := by decide +kernel
theorem dL_foretold_464 : decode cL_foretold 464 = .ok (.iconst 0, 1) := by decide +kernel
theorem dL_foretold_465 : decode cL_foretold 465 = .ok (.istore 16, 2) := by decide +kernel
theorem dL_foretold_467 : decode cL_foretold 467 = .ok (.iconst 0, 1) := by decide +kernel
theorem dL_foretold_468 : decode cL_foretold 468 = .ok (.istore 17, 2) := by decide +kernel
theorem dL_foretold_470 : decode cL_foretold 470 = .ok (.iload 17, 2) := by decide +kernel
theorem dL_foretold_472 : decode cL_foretold 472 = .ok (.iload 12, 2) := by decide +kernel
theorem dL_foretold_474 : decode cL_foretold 474 = .ok (.if_icmp .gt 115, 3) := by decide +kernel
theorem dL_foretold_477 : decode cL_foretold 477 = .ok (.iload 9, 2) := by decide +kernel
theorem dL_foretold_479 : decode cL_foretold 479 = .ok (.ifCond .eq 110, 3) := by decide +kernel
theorem dL_foretold_482 : decode cL_foretold 482 = .ok (.iload 17, 2) := by decide +kernel
theorem dL_foretold_484 : decode cL_foretold 484 = .ok (.ifCond .le 19, 3) := by decide +kernel
theorem dL_foretold_487 : decode cL_foretold 487 = .ok (.aload_n 0, 1) := by decide +kernel
theorem dL_foretold_488 : decode cL_foretold 488 = .ok (.iload 17, 2) := by decide +kernel
theorem dL_foretold_490 : decode cL_foretold 490 = .ok (.invokevirtual 147, 3) := by decide +kernel
theorem dL_foretold_493 : decode cL_foretold 493 = .ok (.ifCond .lt 7, 3) := by decide +kernel
theorem dL_foretold_496 : decode cL_foretold 496 = .ok (.iconst 1, 1) := by decide +kernel
theorem dL_foretold_497 : decode cL_foretold 497 = .ok (.goto 4, 3) := by decide +kernel
theorem dL_foretold_500 : decode cL_foretold 500 = .ok (.iconst 0, 1) := by decide +kernel
theorem dL_foretold_501 : decode cL_foretold 501 = .ok (.istore 9, 2) := by decide +kernel
theorem dL_foretold_503 : decode cL_foretold 503 = .ok (.aload_n 0, 1) := by decide +kernel
theorem dL_foretold_504 : decode cL_foretold 504 = .ok (.bipush 15, 2) := by decide +kernel
theorem dL_foretold_506 : decode cL_foretold 506 = .ok (.invokevirtual 40, 3) := by decide +kernel
theorem dL_foretold_509 : decode cL_foretold 509 = .ok (.aload_n 0, 1) := by decide +kernel
theorem dL_foretold_510 : decode cL_foretold 510 = .ok (.iconst 0, 1) := by decide +kernel
theorem dL_foretold_511 : decode cL_foretold 511 = .ok (.invokevirtual 174, 3) := by decide +kernel
theorem dL_foretold_514 : decode cL_foretold 514 = .ok (.isub, 1) := by decide +kernel
theorem dL_foretold_515 : decode cL_foretold 515 = .ok (.istore 18, 2) := by decide +kernel
theorem dL_foretold_517 : decode cL_foretold 517 = .ok (.iload 18, 2) := by decide +kernel
theorem dL_foretold_519 : decode cL_foretold 519 = .ok (.iload 15, 2) := by decide +kernel
theorem dL_foretold_521 : decode cL_foretold 521 = .ok (.if_icmp .le 8, 3) := by decide +kernel
theorem dL_foretold_524 : decode cL_foretold 524 = .ok (.iload 17, 2) := by decide +kernel
theorem dL_foretold_526 : decode cL_foretold 526 = .ok (.goto 5, 3) := by decide +kernel
theorem dL_foretold_529 : decode cL_foretold 529 = .ok (.iload 16, 2) := by decide +kernel
theorem dL_foretold_531 : decode cL_foretold 531 = .ok (.istore 16, 2) := by decide +kernel
theorem dL_foretold_533 : decode cL_foretold 533 = .ok (.iload 15, 2) := by decide +kernel
theorem dL_foretold_535 : decode cL_foretold 535 = .ok (.iload 18, 2) := by decide +kernel
theorem dL_foretold_537 : decode cL_foretold 537 = .ok (.invokestatic 187, 3) := by decide +kernel
theorem dL_foretold_540 : decode cL_foretold 540 = .ok (.istore 15, 2) := by decide +kernel
theorem dL_foretold_542 : decode cL_foretold 542 = .ok (.iload 9, 2) := by decide +kernel
theorem dL_foretold_544 : decode cL_foretold 544 = .ok (.ifCond .eq 36, 3) := by decide +kernel
theorem dL_foretold_547 : decode cL_foretold 547 = .ok (.iload 17, 2) := by decide +kernel
theorem dL_foretold_549 : decode cL_foretold 549 = .ok (.iload 12, 2) := by decide +kernel
theorem dL_foretold_551 : decode cL_foretold 551 = .ok (.if_icmp .lt 13, 3) := by decide +kernel
theorem dL_foretold_554 : decode cL_foretold 554 = .ok (.aload_n 0, 1) := by decide +kernel
theorem dL_foretold_555 : decode cL_foretold 555 = .ok (.iconst 0, 1) := by decide +kernel
theorem dL_foretold_556 : decode cL_foretold 556 = .ok (.invokevirtual 174, 3) := by decide +kernel
theorem dL_foretold_559 : decode cL_foretold 559 = .ok (.iload 14, 2) := by decide +kernel
theorem dL_foretold_561 : decode cL_foretold 561 = .ok (.if_icmp .ne 19, 3) := by decide +kernel
theorem dL_foretold_564 : decode cL_foretold 564 = .ok (.iload 17, 2) := by decide +kernel
theorem dL_foretold_566 : decode cL_foretold 566 = .ok (.ifCond .eq 10, 3) := by decide +kernel
theorem dL_foretold_569 : decode cL_foretold 569 = .ok (.aload_n 0, 1) := by decide +kernel
theorem dL_foretold_570 : decode cL_foretold 570 = .ok (.invokevirtual 231, 3) := by decide +kernel
theorem dL_foretold_573 : decode cL_foretold 573 = .ok (.ifCond .lt 7, 3) := by decide +kernel
theorem dL_foretold_576 : decode cL_foretold 576 = .ok (.iconst 1, 1) := by decide +kernel
theorem dL_foretold_577 : decode cL_foretold 577 = .ok (.goto 4, 3) := by decide +kernel
theorem dL_foretold_580 : decode cL_foretold 580 = .ok (.iconst 0, 1) := by decide +kernel
theorem dL_foretold_581 : decode cL_foretold 581 = .ok (.istore 9, 2) := by decide +kernel
theorem dL_foretold_583 : decode cL_foretold 583 = .ok (.iinc 17 1, 3) := by decide +kernel
theorem dL_foretold_586 : decode cL_foretold 586 = .ok (.goto (-116), 3) := by decide +kernel
theorem dL_foretold_589 : decode cL_foretold 589 = .ok (.iload 9, 2) := by decide +kernel
theorem dL_foretold_591 : decode cL_foretold 591 = .ok (.ifCond .eq 25, 3) := by decide +kernel
theorem dL_foretold_594 : decode cL_foretold 594 = .ok (.iload 13, 2) := by decide +kernel
theorem dL_foretold_596 : decode cL_foretold 596 = .ok (.iload 16, 2) := by decide +kernel
theorem dL_foretold_598 : decode cL_foretold 598 = .ok (.if_icmp .ne 18, 3) := by decide +kernel
theorem dL_foretold_601 : decode cL_foretold 601 = .ok (.aload_n 0, 1) := by decide +kernel
theorem dL_foretold_602 : decode cL_foretold 602 = .ok (.invokestatic 224, 3) := by decide +kernel
theorem dL_foretold_605 : decode cL_foretold 605 = .ok (.aload_n 2, 1) := by decide +kernel
theorem dL_foretold_606 : decode cL_foretold 606 = .ok (.invokevirtual 244, 3) := by decide +kernel
theorem dL_foretold_609 : decode cL_foretold 609 = .ok (.ifCond .eq 7, 3) := by decide +kernel
theorem dL_foretold_612 : decode cL_foretold 612 = .ok (.iconst 1, 1) := by decide +kernel
theorem dL_foretold_613 : decode cL_foretold 613 = .ok (.goto 4, 3) := by decide +kernel
theorem dL_foretold_616 : decode cL_foretold 616 = .ok (.iconst 0, 1) := by decide +kernel
theorem dL_foretold_617 : decode cL_foretold 617 = .ok (.istore 9, 2) := by decide +kernel
theorem dL_foretold_619 : decode cL_foretold 619 = .ok (.iload 9, 2) := by decide +kernel
theorem dL_foretold_621 : decode cL_foretold 621 = .ok (.ifCond .eq 23, 3) := by decide +kernel
theorem dL_foretold_624 : decode cL_foretold 624 = .ok (.aload_n 0, 1) := by decide +kernel
theorem dL_foretold_625 : decode cL_foretold 625 = .ok (.iload 12, 2) := by decide +kernel
theorem dL_foretold_627 : decode cL_foretold 627 = .ok (.invokevirtual 147, 3) := by decide +kernel
theorem dL_foretold_630 : decode cL_foretold 630 = .ok (.ifCond .lt 14, 3) := by decide +kernel
theorem dL_foretold_633 : decode cL_foretold 633 = .ok (.aload_n 0, 1) := by decide +kernel
theorem dL_foretold_634 : decode cL_foretold 634 = .ok (.invokestatic 248, 3) := by decide +kernel
theorem dL_foretold_637 : decode cL_foretold 637 = .ok (.ifCond .eq 7, 3) := by decide +kernel
theorem dL_foretold_640 : decode cL_foretold 640 = .ok (.iconst 1, 1) := by decide +kernel
theorem dL_foretold_641 : decode cL_foretold 641 = .ok (.goto 4, 3) := by decide +kernel
theorem dL_foretold_644 : decode cL_foretold 644 = .ok (.iconst 0, 1) := by decide +kernel
theorem dL_foretold_645 : decode cL_foretold 645 = .ok (.istore 9, 2) := by decide +kernel
theorem dL_foretold_647 : decode cL_foretold 647 = .ok (.aload_n 0, 1) := by decide +kernel
theorem dL_foretold_648 : decode cL_foretold 648 = .ok (.invokestatic 224, 3) := by decide +kernel
theorem dL_foretold_651 : decode cL_foretold 651 = .ok (.astore 17, 2) := by decide +kernel
theorem dL_foretold_653 : decode cL_foretold 653 = .ok (.iload 9, 2) := by decide +kernel
theorem dL_foretold_655 : decode cL_foretold 655 = .ok (.ifCond .eq 14, 3) := by decide +kernel
theorem dL_foretold_658 : decode cL_foretold 658 = .ok (.aload_n 0, 1) := by decide +kernel
theorem dL_foretold_659 : decode cL_foretold 659 = .ok (.invokevirtual 231, 3) := by decide +kernel
theorem dL_foretold_662 : decode cL_foretold 662 = .ok (.ifCond .lt 7, 3) := by decide +kernel
theorem dL_foretold_665 : decode cL_foretold 665 = .ok (.iconst 1, 1) := by decide +kernel
theorem dL_foretold_666 : decode cL_foretold 666 = .ok (.goto 4, 3) := by decide +kernel
theorem dL_foretold_669 : decode cL_foretold 669 = .ok (.iconst 0, 1) := by decide +kernel
theorem dL_foretold_670 : decode cL_foretold 670 = .ok (.istore 9, 2) := by decide +kernel
theorem dL_foretold_672 : decode cL_foretold 672 = .ok (.iload 12, 2) := by decide +kernel
theorem dL_foretold_674 : decode cL_foretold 674 = .ok (.iconst 1, 1) := by decide +kernel
theorem dL_foretold_675 : decode cL_foretold 675 = .ok (.if_icmp .le 66, 3) := by decide +kernel
theorem dL_foretold_678 : decode cL_foretold 678 = .ok (.iload 9, 2) := by decide +kernel
theorem dL_foretold_680 : decode cL_foretold 680 = .ok (.ifCond .eq 61, 3) := by decide +kernel
theorem dL_foretold_683 : decode cL_foretold 683 = .ok (.aload_n 0, 1) := by decide +kernel
theorem dL_foretold_684 : decode cL_foretold 684 = .ok (.iload 12, 2) := by decide +kernel
theorem dL_foretold_686 : decode cL_foretold 686 = .ok (.iconst 2, 1) := by decide +kernel
theorem dL_foretold_687 : decode cL_foretold 687 = .ok (.idiv, 1) := by decide +kernel
theorem dL_foretold_688 : decode cL_foretold 688 = .ok (.invokevirtual 147, 3) := by decide +kernel
theorem dL_foretold_691 : decode cL_foretold 691 = .ok (.ifCond .lt 47, 3) := by decide +kernel
theorem dL_foretold_694 : decode cL_foretold 694 = .ok (.aload_n 0, 1) := by decide +kernel
theorem dL_foretold_695 : decode cL_foretold 695 = .ok (.iload 12, 2) := by decide +kernel
theorem dL_foretold_697 : decode cL_foretold 697 = .ok (.iload 12, 2) := by decide +kernel
theorem dL_foretold_699 : decode cL_foretold 699 = .ok (.iconst 2, 1) := by decide +kernel
theorem dL_foretold_700 : decode cL_foretold 700 = .ok (.idiv, 1) := by decide +kernel
theorem dL_foretold_701 : decode cL_foretold 701 = .ok (.isub, 1) := by decide +kernel
theorem dL_foretold_702 : decode cL_foretold 702 = .ok (.invokevirtual 147, 3) := by decide +kernel
theorem dL_foretold_705 : decode cL_foretold 705 = .ok (.ifCond .lt 33, 3) := by decide +kernel
theorem dL_foretold_708 : decode cL_foretold 708 = .ok (.aload_n 0, 1) := by decide +kernel
theorem dL_foretold_709 : decode cL_foretold 709 = .ok (.invokestatic 224, 3) := by decide +kernel
theorem dL_foretold_712 : decode cL_foretold 712 = .ok (.aload 17, 2) := by decide +kernel
theorem dL_foretold_714 : decode cL_foretold 714 = .ok (.invokevirtual 244, 3) := by decide +kernel
theorem dL_foretold_717 : decode cL_foretold 717 = .ok (.ifCond .eq 21, 3) := by decide +kernel
theorem dL_foretold_720 : decode cL_foretold 720 = .ok (.aload_n 0, 1) := by decide +kernel
theorem dL_foretold_721 : decode cL_foretold 721 = .ok (.invokevirtual 231, 3) := by decide +kernel
theorem dL_foretold_724 : decode cL_foretold 724 = .ok (.ifCond .lt 14, 3) := by decide +kernel
theorem dL_foretold_727 : decode cL_foretold 727 = .ok (.aload_n 0, 1) := by decide +kernel
theorem dL_foretold_728 : decode cL_foretold 728 = .ok (.invokevirtual 231, 3) := by decide +kernel
theorem dL_foretold_731 : decode cL_foretold 731 = .ok (.ifCond .lt 7, 3) := by decide +kernel
theorem dL_foretold_734 : decode cL_foretold 734 = .ok (.iconst 1, 1) := by decide +kernel
theorem dL_foretold_735 : decode cL_foretold 735 = .ok (.goto 4, 3) := by decide +kernel
theorem dL_foretold_738 : decode cL_foretold 738 = .ok (.iconst 0, 1) := by decide +kernel
theorem dL_foretold_739 : decode cL_foretold 739 = .ok (.istore 9, 2) := by decide +kernel
theorem dL_foretold_741 : decode cL_foretold 741 = .ok (.iload 9, 2) := by decide +kernel
theorem dL_foretold_743 : decode cL_foretold 743 = .ok (.ifCond .eq 18, 3) := by decide +kernel
theorem dL_foretold_746 : decode cL_foretold 746 = .ok (.aload_n 0, 1) := by decide +kernel
theorem dL_foretold_747 : decode cL_foretold 747 = .ok (.invokestatic 224, 3) := by decide +kernel
theorem dL_foretold_750 : decode cL_foretold 750 = .ok (.aload_n 2, 1) := by decide +kernel
theorem dL_foretold_751 : decode cL_foretold 751 = .ok (.invokevirtual 244, 3) := by decide +kernel
theorem dL_foretold_754 : decode cL_foretold 754 = .ok (.ifCond .eq 7, 3) := by decide +kernel
theorem dL_foretold_757 : decode cL_foretold 757 = .ok (.iconst 1, 1) := by decide +kernel
theorem dL_foretold_758 : decode cL_foretold 758 = .ok (.goto 4, 3) := by decide +kernel
theorem dL_foretold_761 : decode cL_foretold 761 = .ok (.iconst 0, 1) := by decide +kernel
theorem dL_foretold_762 : decode cL_foretold 762 = .ok (.ireturn, 1) := by decide +kernel
theorem dL_undone_0 : decode cL_undone 0 = .ok (.aload_n 0, 1) := by decide +kernel
theorem dL_undone_1 : decode cL_undone 1 = .ok (.invokestatic 224, 3) := by decide +kernel
theorem dL_undone_4 : decode cL_undone 4 = .ok (.astore_n 2, 1) := by decide +kernel
theorem dL_undone_5 : decode cL_undone 5 = .ok (.iconst 0, 1) := by decide +kernel
theorem dL_undone_6 : decode cL_undone 6 = .ok (.istore_n 3, 1) := by decide +kernel
theorem dL_undone_7 : decode cL_undone 7 = .ok (.aload_n 0, 1) := by decide +kernel
theorem dL_undone_8 : decode cL_undone 8 = .ok (.iconst 0, 1) := by decide +kernel
theorem dL_undone_9 : decode cL_undone 9 = .ok (.invokevirtual 252, 3) := by decide +kernel
theorem dL_undone_12 : decode cL_undone 12 = .ok (.istore 4, 2) := by decide +kernel
theorem dL_undone_14 : decode cL_undone 14 = .ok (.iconst 0, 1) := by decide +kernel
theorem dL_undone_15 : decode cL_undone 15 = .ok (.istore 5, 2) := by decide +kernel
theorem dL_undone_17 : decode cL_undone 17 = .ok (.iload 5, 2) := by decide +kernel
theorem dL_undone_19 : decode cL_undone 19 = .ok (.bipush 7, 2) := by decide +kernel
theorem dL_undone_21 : decode cL_undone 21 = .ok (.if_icmp .ge 25, 3) := by decide +kernel
theorem dL_undone_24 : decode cL_undone 24 = .ok (.iload_n 3, 1) := by decide +kernel
theorem dL_undone_25 : decode cL_undone 25 = .ok (.aload_n 0, 1) := by decide +kernel
theorem dL_undone_26 : decode cL_undone 26 = .ok (.aload_n 1, 1) := by decide +kernel
theorem dL_undone_27 : decode cL_undone 27 = .ok (.invokestatic 255, 3) := by decide +kernel
theorem dL_undone_30 : decode cL_undone 30 = .ok (.ifCond .lt 7, 3) := by decide +kernel
theorem dL_undone_33 : decode cL_undone 33 = .ok (.iconst 1, 1) := by decide +kernel
theorem dL_undone_34 : decode cL_undone 34 = .ok (.goto 4, 3) := by decide +kernel
theorem dL_undone_37 : decode cL_undone 37 = .ok (.iconst 0, 1) := by decide +kernel
theorem dL_undone_38 : decode cL_undone 38 = .ok (.iadd, 1) := by decide +kernel
theorem dL_undone_39 : decode cL_undone 39 = .ok (.istore_n 3, 1) := by decide +kernel
theorem dL_undone_40 : decode cL_undone 40 = .ok (.iinc 5 1, 3) := by decide +kernel
theorem dL_undone_43 : decode cL_undone 43 = .ok (.goto (-26), 3) := by decide +kernel
theorem dL_undone_46 : decode cL_undone 46 = .ok (.iload_n 3, 1) := by decide +kernel
theorem dL_undone_47 : decode cL_undone 47 = .ok (.aload_n 0, 1) := by decide +kernel
theorem dL_undone_48 : decode cL_undone 48 = .ok (.iconst 0, 1) := by decide +kernel
theorem dL_undone_49 : decode cL_undone 49 = .ok (.invokevirtual 259, 3) := by decide +kernel
theorem dL_undone_52 : decode cL_undone 52 = .ok (.ifCond .lt 7, 3) := by decide +kernel
theorem dL_undone_55 : decode cL_undone 55 = .ok (.iconst 1, 1) := by decide +kernel
theorem dL_undone_56 : decode cL_undone 56 = .ok (.goto 4, 3) := by decide +kernel
theorem dL_undone_59 : decode cL_undone 59 = .ok (.iconst 0, 1) := by decide +kernel
theorem dL_undone_60 : decode cL_undone 60 = .ok (.iadd, 1) := by decide +kernel
theorem dL_undone_61 : decode cL_undone 61 = .ok (.istore_n 3, 1) := by decide +kernel
theorem dL_undone_62 : decode cL_undone 62 = .ok (.aload_n 0, 1) := by decide +kernel
theorem dL_undone_63 : decode cL_undone 63 = .ok (.invokestatic 224, 3) := by decide +kernel
theorem dL_undone_66 : decode cL_undone 66 = .ok (.aload_n 2, 1) := by decide +kernel
theorem dL_undone_67 : decode cL_undone 67 = .ok (.invokevirtual 244, 3) := by decide +kernel
theorem dL_undone_70 : decode cL_undone 70 = .ok (.ifCond .eq 170, 3) := by decide +kernel
theorem dL_undone_73 : decode cL_undone 73 = .ok (.aload_n 0, 1) := by decide +kernel
theorem dL_undone_74 : decode cL_undone 74 = .ok (.iconst 0, 1) := by decide +kernel
theorem dL_undone_75 : decode cL_undone 75 = .ok (.invokevirtual 40, 3) := by decide +kernel
theorem dL_undone_78 : decode cL_undone 78 = .ok (.iload 4, 2) := by decide +kernel
theorem dL_undone_80 : decode cL_undone 80 = .ok (.if_icmp .ne 160, 3) := by decide +kernel
theorem dL_undone_83 : decode cL_undone 83 = .ok (.aload_n 0, 1) := by decide +kernel
theorem dL_undone_84 : decode cL_undone 84 = .ok (.bipush 6, 2) := by decide +kernel
theorem dL_undone_86 : decode cL_undone 86 = .ok (.iconst 1, 1) := by decide +kernel
theorem dL_undone_87 : decode cL_undone 87 = .ok (.invokevirtual 109, 3) := by decide +kernel
theorem dL_undone_90 : decode cL_undone 90 = .ok (.iconst (-1), 1) := by decide +kernel
theorem dL_undone_91 : decode cL_undone 91 = .ok (.if_icmp .ne 149, 3) := by decide +kernel
theorem dL_undone_94 : decode cL_undone 94 = .ok (.aload_n 0, 1) := by decide +kernel
theorem dL_undone_95 : decode cL_undone 95 = .ok (.iconst (-1), 1) := by decide +kernel
theorem dL_undone_96 : decode cL_undone 96 = .ok (.iconst 1, 1) := by decide +kernel
theorem dL_undone_97 : decode cL_undone 97 = .ok (.invokevirtual 113, 3) := by decide +kernel
theorem dL_undone_100 : decode cL_undone 100 = .ok (.iconst (-1), 1) := by decide +kernel
theorem dL_undone_101 : decode cL_undone 101 = .ok (.if_icmp .ne 139, 3) := by decide +kernel
theorem dL_undone_104 : decode cL_undone 104 = .ok (.aload_n 0, 1) := by decide +kernel
theorem dL_undone_105 : decode cL_undone 105 = .ok (.bipush 6, 2) := by decide +kernel
theorem dL_undone_107 : decode cL_undone 107 = .ok (.invokevirtual 116, 3) := by decide +kernel
theorem dL_undone_110 : decode cL_undone 110 = .ok (.iconst (-1), 1) := by decide +kernel
theorem dL_undone_111 : decode cL_undone 111 = .ok (.if_icmp .ne 129, 3) := by decide +kernel
theorem dL_undone_114 : decode cL_undone 114 = .ok (.aload_n 0, 1) := by decide +kernel
theorem dL_undone_115 : decode cL_undone 115 = .ok (.bipush 20, 2) := by decide +kernel
theorem dL_undone_117 : decode cL_undone 117 = .ok (.bipush (-2), 2) := by decide +kernel
theorem dL_undone_119 : decode cL_undone 119 = .ok (.invokevirtual 119, 3) := by decide +kernel
theorem dL_undone_122 : decode cL_undone 122 = .ok (.iconst (-1), 1) := by decide +kernel
theorem dL_undone_123 : decode cL_undone 123 = .ok (.if_icmp .ne 117, 3) := by decide +kernel
theorem dL_undone_126 : decode cL_undone 126 = .ok (.aload_n 0, 1) := by decide +kernel
theorem dL_undone_127 : decode cL_undone 127 = .ok (.iconst 0, 1) := by decide +kernel
theorem dL_undone_128 : decode cL_undone 128 = .ok (.iconst (-1), 1) := by decide +kernel
theorem dL_undone_129 : decode cL_undone 129 = .ok (.invokevirtual 119, 3) := by decide +kernel
theorem dL_undone_132 : decode cL_undone 132 = .ok (.iconst (-1), 1) := by decide +kernel
theorem dL_undone_133 : decode cL_undone 133 = .ok (.if_icmp .ne 107, 3) := by decide +kernel
theorem dL_undone_136 : decode cL_undone 136 = .ok (.aload_n 0, 1) := by decide +kernel
theorem dL_undone_137 : decode cL_undone 137 = .ok (.iconst 5, 1) := by decide +kernel
theorem dL_undone_138 : decode cL_undone 138 = .ok (.invokevirtual 122, 3) := by decide +kernel
theorem dL_undone_141 : decode cL_undone 141 = .ok (.iconst (-1), 1) := by decide +kernel
theorem dL_undone_142 : decode cL_undone 142 = .ok (.if_icmp .ne 98, 3) := by decide +kernel
theorem dL_undone_145 : decode cL_undone 145 = .ok (.aload_n 0, 1) := by decide +kernel
theorem dL_undone_146 : decode cL_undone 146 = .ok (.iconst 0, 1) := by decide +kernel
theorem dL_undone_147 : decode cL_undone 147 = .ok (.iconst 0, 1) := by decide +kernel
theorem dL_undone_148 : decode cL_undone 148 = .ok (.bipush (-2), 2) := by decide +kernel
theorem dL_undone_150 : decode cL_undone 150 = .ok (.invokevirtual 125, 3) := by decide +kernel
theorem dL_undone_153 : decode cL_undone 153 = .ok (.iconst (-1), 1) := by decide +kernel
theorem dL_undone_154 : decode cL_undone 154 = .ok (.if_icmp .ne 86, 3) := by decide +kernel
theorem dL_undone_157 : decode cL_undone 157 = .ok (.aload_n 0, 1) := by decide +kernel
theorem dL_undone_158 : decode cL_undone 158 = .ok (.iconst 0, 1) := by decide +kernel
theorem dL_undone_159 : decode cL_undone 159 = .ok (.iconst 1, 1) := by decide +kernel
theorem dL_undone_160 : decode cL_undone 160 = .ok (.iconst 4, 1) := by decide +kernel
theorem dL_undone_161 : decode cL_undone 161 = .ok (.invokevirtual 125, 3) := by decide +kernel
theorem dL_undone_164 : decode cL_undone 164 = .ok (.iconst (-1), 1) := by decide +kernel
theorem dL_undone_165 : decode cL_undone 165 = .ok (.if_icmp .ne 75, 3) := by decide +kernel
theorem dL_undone_168 : decode cL_undone 168 = .ok (.aload_n 0, 1) := by decide +kernel
theorem dL_undone_169 : decode cL_undone 169 = .ok (.iconst (-1), 1) := by decide +kernel
theorem dL_undone_170 : decode cL_undone 170 = .ok (.invokevirtual 129, 3) := by decide +kernel
theorem dL_undone_173 : decode cL_undone 173 = .ok (.iconst (-1), 1) := by decide +kernel
theorem dL_undone_174 : decode cL_undone 174 = .ok (.if_icmp .ne 66, 3) := by decide +kernel
theorem dL_undone_177 : decode cL_undone 177 = .ok (.aload_n 0, 1) := by decide +kernel
theorem dL_undone_178 : decode cL_undone 178 = .ok (.iconst 0, 1) := by decide +kernel
theorem dL_undone_179 : decode cL_undone 179 = .ok (.iconst 0, 1) := by decide +kernel
theorem dL_undone_180 : decode cL_undone 180 = .ok (.iconst 4, 1) := by decide +kernel
theorem dL_undone_181 : decode cL_undone 181 = .ok (.invokevirtual 132, 3) := by decide +kernel
theorem dL_undone_184 : decode cL_undone 184 = .ok (.iconst (-1), 1) := by decide +kernel
theorem dL_undone_185 : decode cL_undone 185 = .ok (.if_icmp .ne 55, 3) := by decide +kernel
theorem dL_undone_188 : decode cL_undone 188 = .ok (.aload_n 0, 1) := by decide +kernel
theorem dL_undone_189 : decode cL_undone 189 = .ok (.iconst 0, 1) := by decide +kernel
theorem dL_undone_190 : decode cL_undone 190 = .ok (.bipush 20, 2) := by decide +kernel
theorem dL_undone_192 : decode cL_undone 192 = .ok (.invokevirtual 138, 3) := by decide +kernel
theorem dL_undone_195 : decode cL_undone 195 = .ok (.iconst (-1), 1) := by decide +kernel
theorem dL_undone_196 : decode cL_undone 196 = .ok (.if_icmp .ne 44, 3) := by decide +kernel
theorem dL_undone_199 : decode cL_undone 199 = .ok (.aload_n 0, 1) := by decide +kernel
theorem dL_undone_200 : decode cL_undone 200 = .ok (.iconst 0, 1) := by decide +kernel
theorem dL_undone_201 : decode cL_undone 201 = .ok (.invokevirtual 147, 3) := by decide +kernel
theorem dL_undone_204 : decode cL_undone 204 = .ok (.iconst (-1), 1) := by decide +kernel
theorem dL_undone_205 : decode cL_undone 205 = .ok (.if_icmp .ne 35, 3) := by decide +kernel
theorem dL_undone_208 : decode cL_undone 208 = .ok (.aload_n 0, 1) := by decide +kernel
theorem dL_undone_209 : decode cL_undone 209 = .ok (.bipush 100, 2) := by decide +kernel
theorem dL_undone_211 : decode cL_undone 211 = .ok (.invokevirtual 147, 3) := by decide +kernel
theorem dL_undone_214 : decode cL_undone 214 = .ok (.iconst (-1), 1) := by decide +kernel
theorem dL_undone_215 : decode cL_undone 215 = .ok (.if_icmp .ne 25, 3) := by decide +kernel
theorem dL_undone_218 : decode cL_undone 218 = .ok (.aload_n 0, 1) := by decide +kernel
theorem dL_undone_219 : decode cL_undone 219 = .ok (.iconst 2, 1) := by decide +kernel
theorem dL_undone_220 : decode cL_undone 220 = .ok (.invokevirtual 252, 3) := by decide +kernel
theorem dL_undone_223 : decode cL_undone 223 = .ok (.iconst (-1), 1) := by decide +kernel
theorem dL_undone_224 : decode cL_undone 224 = .ok (.if_icmp .ne 16, 3) := by decide +kernel
theorem dL_undone_227 : decode cL_undone 227 = .ok (.aload_n 0, 1) := by decide +kernel
theorem dL_undone_228 : decode cL_undone 228 = .ok (.iconst (-1), 1) := by decide +kernel
theorem dL_undone_229 : decode cL_undone 229 = .ok (.invokevirtual 259, 3) := by decide +kernel
theorem dL_undone_232 : decode cL_undone 232 = .ok (.iconst (-1), 1) := by decide +kernel
theorem dL_undone_233 : decode cL_undone 233 = .ok (.if_icmp .ne 7, 3) := by decide +kernel
theorem dL_undone_236 : decode cL_undone 236 = .ok (.iconst 1, 1) := by decide +kernel
theorem dL_undone_237 : decode cL_undone 237 = .ok (.goto 4, 3) := by decide +kernel
theorem dL_undone_240 : decode cL_undone 240 = .ok (.iconst 0, 1) := by decide +kernel
theorem dL_undone_241 : decode cL_undone 241 = .ok (.istore 5, 2) := by decide +kernel
theorem dL_undone_243 : decode cL_undone 243 = .ok (.iload_n 3, 1) := by decide +kernel
theorem dL_undone_244 : decode cL_undone 244 = .ok (.ifCond .le 28, 3) := by decide +kernel
theorem dL_undone_247 : decode cL_undone 247 = .ok (.iload 5, 2) := by decide +kernel
theorem dL_undone_249 : decode cL_undone 249 = .ok (.ifCond .eq 23, 3) := by decide +kernel
theorem dL_undone_252 : decode cL_undone 252 = .ok (.aload_n 0, 1) := by decide +kernel
theorem dL_undone_253 : decode cL_undone 253 = .ok (.invokevirtual 231, 3) := by decide +kernel
theorem dL_undone_256 : decode cL_undone 256 = .ok (.ifCond .lt 7, 3) := by decide +kernel
theorem dL_undone_259 : decode cL_undone 259 = .ok (.iconst 1, 1) := by decide +kernel
theorem dL_undone_260 : decode cL_undone 260 = .ok (.goto 4, 3) := by decide +kernel
theorem dL_undone_263 : decode cL_undone 263 = .ok (.iconst 0, 1) := by decide +kernel
theorem dL_undone_264 : decode cL_undone 264 = .ok (.istore 5, 2) := by decide +kernel
theorem dL_undone_266 : decode cL_undone 266 = .ok (.iinc 3 (-1), 3) := by decide +kernel
theorem dL_undone_269 : decode cL_undone 269 = .ok (.goto (-26), 3) := by decide +kernel
theorem dL_undone_272 : decode cL_undone 272 = .ok (.iload 5, 2) := by decide +kernel
theorem dL_undone_274 : decode cL_undone 274 = .ok (.ifCond .eq 18, 3) := by decide +kernel
theorem dL_undone_277 : decode cL_undone 277 = .ok (.aload_n 0, 1) := by decide +kernel
theorem dL_undone_278 : decode cL_undone 278 = .ok (.invokestatic 224, 3) := by decide +kernel
theorem dL_undone_281 : decode cL_undone 281 = .ok (.aload_n 2, 1) := by decide +kernel
theorem dL_undone_282 : decode cL_undone 282 = .ok (.invokevirtual 244, 3) := by decide +kernel
theorem dL_undone_285 : decode cL_undone 285 = .ok (.ifCond .eq 7, 3) := by decide +kernel
theorem dL_undone_288 : decode cL_undone 288 = .ok (.iconst 1, 1) := by decide +kernel
theorem dL_undone_289 : decode cL_undone 289 = .ok (.goto 4, 3) := by decide +kernel
theorem dL_undone_292 : decode cL_undone 292 = .ok (.iconst 0, 1) := by decide +kernel
theorem dL_undone_293 : decode cL_undone 293 = .ok (.istore 5, 2) := by decide +kernel
theorem dL_undone_295 : decode cL_undone 295 = .ok (.new 9, 3) := by decide +kernel
theorem dL_undone_298 : decode cL_undone 298 = .ok (.dup, 1) := by decide +kernel
theorem dL_undone_299 : decode cL_undone 299 = .ok (.invokespecial 262, 3) := by decide +kernel
theorem dL_undone_302 : decode cL_undone 302 = .ok (.astore 6, 2) := by decide +kernel
theorem dL_undone_304 : decode cL_undone 304 = .ok (.iload 5, 2) := by decide +kernel
theorem dL_undone_306 : decode cL_undone 306 = .ok (.ifCond .eq 61, 3) := by decide +kernel
theorem dL_undone_309 : decode cL_undone 309 = .ok (.aload 6, 2) := by decide +kernel
theorem dL_undone_311 : decode cL_undone 311 = .ok (.aload_n 0, 1) := by decide +kernel
theorem dL_undone_312 : decode cL_undone 312 = .ok (.iconst 2, 1) := by decide +kernel
theorem dL_undone_313 : decode cL_undone 313 = .ok (.invokestatic 212, 3) := by decide +kernel
theorem dL_undone_316 : decode cL_undone 316 = .ok (.invokestatic 263, 3) := by decide +kernel
theorem dL_undone_319 : decode cL_undone 319 = .ok (.ifCond .eq 48, 3) := by decide +kernel
theorem dL_undone_322 : decode cL_undone 322 = .ok (.aload 6, 2) := by decide +kernel
theorem dL_undone_324 : decode cL_undone 324 = .ok (.iconst 2, 1) := by decide +kernel
theorem dL_undone_325 : decode cL_undone 325 = .ok (.invokestatic 212, 3) := by decide +kernel
theorem dL_undone_328 : decode cL_undone 328 = .ok (.aload_n 0, 1) := by decide +kernel
theorem dL_undone_329 : decode cL_undone 329 = .ok (.iconst 2, 1) := by decide +kernel
theorem dL_undone_330 : decode cL_undone 330 = .ok (.invokestatic 212, 3) := by decide +kernel
theorem dL_undone_333 : decode cL_undone 333 = .ok (.invokevirtual 244, 3) := by decide +kernel
theorem dL_undone_336 : decode cL_undone 336 = .ok (.ifCond .eq 31, 3) := by decide +kernel
theorem dL_undone_339 : decode cL_undone 339 = .ok (.aload 6, 2) := by decide +kernel
theorem dL_undone_341 : decode cL_undone 341 = .ok (.bipush 13, 2) := by decide +kernel
theorem dL_undone_343 : decode cL_undone 343 = .ok (.invokevirtual 40, 3) := by decide +kernel
theorem dL_undone_346 : decode cL_undone 346 = .ok (.ifCond .ne 21, 3) := by decide +kernel
theorem dL_undone_349 : decode cL_undone 349 = .ok (.aload 6, 2) := by decide +kernel
theorem dL_undone_351 : decode cL_undone 351 = .ok (.iconst 3, 1) := by decide +kernel
theorem dL_undone_352 : decode cL_undone 352 = .ok (.invokevirtual 40, 3) := by decide +kernel
theorem dL_undone_355 : decode cL_undone 355 = .ok (.aload_n 0, 1) := by decide +kernel
theorem dL_undone_356 : decode cL_undone 356 = .ok (.iconst 3, 1) := by decide +kernel
theorem dL_undone_357 : decode cL_undone 357 = .ok (.invokevirtual 40, 3) := by decide +kernel
theorem dL_undone_360 : decode cL_undone 360 = .ok (.if_icmp .ne 7, 3) := by decide +kernel
theorem dL_undone_363 : decode cL_undone 363 = .ok (.iconst 1, 1) := by decide +kernel
theorem dL_undone_364 : decode cL_undone 364 = .ok (.goto 4, 3) := by decide +kernel
theorem dL_undone_367 : decode cL_undone 367 = .ok (.iconst 0, 1) := by decide +kernel
theorem dL_undone_368 : decode cL_undone 368 = .ok (.ireturn, 1) := by decide +kernel
theorem dL_law_0 : decode cL_law 0 = .ok (.bipush 8, 2) := by decide +kernel
theorem dL_law_2 : decode cL_law 2 = .ok (.newarray .int, 2) := by decide +kernel
theorem dL_law_4 : decode cL_law 4 = .ok (.astore_n 1, 1) := by decide +kernel
theorem dL_law_5 : decode cL_law 5 = .ok (.iconst 1, 1) := by decide +kernel
theorem dL_law_6 : decode cL_law 6 = .ok (.istore_n 2, 1) := by decide +kernel
theorem dL_law_7 : decode cL_law 7 = .ok (.iconst 0, 1) := by decide +kernel
theorem dL_law_8 : decode cL_law 8 = .ok (.istore_n 3, 1) := by decide +kernel
theorem dL_law_9 : decode cL_law 9 = .ok (.iload_n 3, 1) := by decide +kernel
theorem dL_law_10 : decode cL_law 10 = .ok (.iconst 2, 1) := by decide +kernel
theorem dL_law_11 : decode cL_law 11 = .ok (.if_icmp .ge 160, 3) := by decide +kernel
theorem dL_law_14 : decode cL_law 14 = .ok (.iload_n 2, 1) := by decide +kernel
theorem dL_law_15 : decode cL_law 15 = .ok (.ifCond .eq 156, 3) := by decide +kernel
theorem dL_law_18 : decode cL_law 18 = .ok (.aload_n 1, 1) := by decide +kernel
theorem dL_law_19 : decode cL_law 19 = .ok (.bipush 7, 2) := by decide +kernel
theorem dL_law_21 : decode cL_law 21 = .ok (.iload_n 3, 1) := by decide +kernel
theorem dL_law_22 : decode cL_law 22 = .ok (.aload_n 0, 1) := by decide +kernel
theorem dL_law_23 : decode cL_law 23 = .ok (.arraylength, 1) := by decide +kernel
theorem dL_law_24 : decode cL_law 24 = .ok (.if_icmp .ge 9, 3) := by decide +kernel
theorem dL_law_27 : decode cL_law 27 = .ok (.aload_n 0, 1) := by decide +kernel
theorem dL_law_28 : decode cL_law 28 = .ok (.iload_n 3, 1) := by decide +kernel
theorem dL_law_29 : decode cL_law 29 = .ok (.iaload, 1) := by decide +kernel
theorem dL_law_30 : decode cL_law 30 = .ok (.goto 7, 3) := by decide +kernel
theorem dL_law_33 : decode cL_law 33 = .ok (.bipush 37, 2) := by decide +kernel
theorem dL_law_35 : decode cL_law 35 = .ok (.iload_n 3, 1) := by decide +kernel
theorem dL_law_36 : decode cL_law 36 = .ok (.imul, 1) := by decide +kernel
theorem dL_law_37 : decode cL_law 37 = .ok (.iastore, 1) := by decide +kernel
theorem dL_law_38 : decode cL_law 38 = .ok (.new 9, 3) := by decide +kernel
theorem dL_law_41 : decode cL_law 41 = .ok (.dup, 1) := by decide +kernel
theorem dL_law_42 : decode cL_law 42 = .ok (.invokespecial 262, 3) := by decide +kernel
theorem dL_law_45 : decode cL_law 45 = .ok (.astore 4, 2) := by decide +kernel
theorem dL_law_47 : decode cL_law 47 = .ok (.aload 4, 2) := by decide +kernel
theorem dL_law_49 : decode cL_law 49 = .ok (.aload_n 1, 1) := by decide +kernel
theorem dL_law_50 : decode cL_law 50 = .ok (.invokestatic 267, 3) := by decide +kernel
theorem dL_law_53 : decode cL_law 53 = .ok (.invokestatic 263, 3) := by decide +kernel
theorem dL_law_56 : decode cL_law 56 = .ok (.ifCond .eq 16, 3) := by decide +kernel
theorem dL_law_59 : decode cL_law 59 = .ok (.aload 4, 2) := by decide +kernel
theorem dL_law_61 : decode cL_law 61 = .ok (.iconst 3, 1) := by decide +kernel
theorem dL_law_62 : decode cL_law 62 = .ok (.invokevirtual 122, 3) := by decide +kernel
theorem dL_law_65 : decode cL_law 65 = .ok (.ifCond .ne 7, 3) := by decide +kernel
theorem dL_law_68 : decode cL_law 68 = .ok (.iconst 1, 1) := by decide +kernel
theorem dL_law_69 : decode cL_law 69 = .ok (.goto 4, 3) := by decide +kernel
theorem dL_law_72 : decode cL_law 72 = .ok (.iconst 0, 1) := by decide +kernel
theorem dL_law_73 : decode cL_law 73 = .ok (.istore_n 2, 1) := by decide +kernel
theorem dL_law_74 : decode cL_law 74 = .ok (.iconst 0, 1) := by decide +kernel
theorem dL_law_75 : decode cL_law 75 = .ok (.istore 5, 2) := by decide +kernel
theorem dL_law_77 : decode cL_law 77 = .ok (.iload 5, 2) := by decide +kernel
theorem dL_law_79 : decode cL_law 79 = .ok (.bipush 24, 2) := by decide +kernel
theorem dL_law_81 : decode cL_law 81 = .ok (.if_icmp .ge 56, 3) := by decide +kernel
theorem dL_law_84 : decode cL_law 84 = .ok (.iload_n 2, 1) := by decide +kernel
theorem dL_law_85 : decode cL_law 85 = .ok (.ifCond .eq 52, 3) := by decide +kernel
theorem dL_law_88 : decode cL_law 88 = .ok (.aload 4, 2) := by decide +kernel
theorem dL_law_90 : decode cL_law 90 = .ok (.iconst 0, 1) := by decide +kernel
theorem dL_law_91 : decode cL_law 91 = .ok (.iconst 3, 1) := by decide +kernel
theorem dL_law_92 : decode cL_law 92 = .ok (.invokevirtual 154, 3) := by decide +kernel
theorem dL_law_95 : decode cL_law 95 = .ok (.istore 6, 2) := by decide +kernel
theorem dL_law_97 : decode cL_law 97 = .ok (.aload 4, 2) := by decide +kernel
theorem dL_law_99 : decode cL_law 99 = .ok (.aload_n 1, 1) := by decide +kernel
theorem dL_law_100 : decode cL_law 100 = .ok (.invokestatic 255, 3) := by decide +kernel
theorem dL_law_103 : decode cL_law 103 = .ok (.istore 7, 2) := by decide +kernel
theorem dL_law_105 : decode cL_law 105 = .ok (.aload 4, 2) := by decide +kernel
theorem dL_law_107 : decode cL_law 107 = .ok (.invokestatic 248, 3) := by decide +kernel
theorem dL_law_110 : decode cL_law 110 = .ok (.ifCond .eq 19, 3) := by decide +kernel
theorem dL_law_113 : decode cL_law 113 = .ok (.aload 4, 2) := by decide +kernel
theorem dL_law_115 : decode cL_law 115 = .ok (.iconst 0, 1) := by decide +kernel
theorem dL_law_116 : decode cL_law 116 = .ok (.iconst 3, 1) := by decide +kernel
theorem dL_law_117 : decode cL_law 117 = .ok (.invokevirtual 154, 3) := by decide +kernel
theorem dL_law_120 : decode cL_law 120 = .ok (.iload 6, 2) := by decide +kernel
theorem dL_law_122 : decode cL_law 122 = .ok (.if_icmp .lt 7, 3) := by decide +kernel
theorem dL_law_125 : decode cL_law 125 = .ok (.iconst 1, 1) := by decide +kernel
theorem dL_law_126 : decode cL_law 126 = .ok (.goto 4, 3) := by decide +kernel
theorem dL_law_129 : decode cL_law 129 = .ok (.iconst 0, 1) := by decide +kernel
theorem dL_law_130 : decode cL_law 130 = .ok (.istore_n 2, 1) := by decide +kernel
theorem dL_law_131 : decode cL_law 131 = .ok (.iinc 5 1, 3) := by decide +kernel
theorem dL_law_134 : decode cL_law 134 = .ok (.goto (-57), 3) := by decide +kernel
theorem dL_law_137 : decode cL_law 137 = .ok (.iload_n 2, 1) := by decide +kernel
theorem dL_law_138 : decode cL_law 138 = .ok (.ifCond .eq 25, 3) := by decide +kernel
theorem dL_law_141 : decode cL_law 141 = .ok (.aload 4, 2) := by decide +kernel
theorem dL_law_143 : decode cL_law 143 = .ok (.aload_n 1, 1) := by decide +kernel
theorem dL_law_144 : decode cL_law 144 = .ok (.invokestatic 271, 3) := by decide +kernel
theorem dL_law_147 : decode cL_law 147 = .ok (.ifCond .eq 16, 3) := by decide +kernel
theorem dL_law_150 : decode cL_law 150 = .ok (.aload 4, 2) := by decide +kernel
theorem dL_law_152 : decode cL_law 152 = .ok (.aload_n 1, 1) := by decide +kernel
theorem dL_law_153 : decode cL_law 153 = .ok (.invokestatic 275, 3) := by decide +kernel
theorem dL_law_156 : decode cL_law 156 = .ok (.ifCond .eq 7, 3) := by decide +kernel
theorem dL_law_159 : decode cL_law 159 = .ok (.iconst 1, 1) := by decide +kernel
theorem dL_law_160 : decode cL_law 160 = .ok (.goto 4, 3) := by decide +kernel
theorem dL_law_163 : decode cL_law 163 = .ok (.iconst 0, 1) := by decide +kernel
theorem dL_law_164 : decode cL_law 164 = .ok (.istore_n 2, 1) := by decide +kernel
theorem dL_law_165 : decode cL_law 165 = .ok (.iinc 3 1, 3) := by decide +kernel
theorem dL_law_168 : decode cL_law 168 = .ok (.goto (-159), 3) := by decide +kernel
theorem dL_law_171 : decode cL_law 171 = .ok (.iload_n 2, 1) := by decide +kernel
theorem dL_law_172 : decode cL_law 172 = .ok (.ireturn, 1) := by decide +kernel
