theorem dX_turn_133 : decode cX_turn 133 = .ok (.getfield 96, 3) := by decide +kernel
theorem dX_turn_136 : decode cX_turn 136 = .ok (.aload_n 0, 1) := by decide +kernel
theorem dX_turn_137 : decode cX_turn 137 = .ok (.getfield 72, 3) := by decide +kernel
theorem dX_turn_140 : decode cX_turn 140 = .ok (.iadd, 1) := by decide +kernel
theorem dX_turn_141 : decode cX_turn 141 = .ok (.aload_n 0, 1) := by decide +kernel
theorem dX_turn_142 : decode cX_turn 142 = .ok (.getfield 69, 3) := by decide +kernel
theorem dX_turn_145 : decode cX_turn 145 = .ok (.if_icmp .le 10, 3) := by decide +kernel
theorem dX_turn_148 : decode cX_turn 148 = .ok (.aload_n 0, 1) := by decide +kernel
theorem dX_turn_149 : decode cX_turn 149 = .ok (.getfield 69, 3) := by decide +kernel
theorem dX_turn_152 : decode cX_turn 152 = .ok (.goto 12, 3) := by decide +kernel
theorem dX_turn_155 : decode cX_turn 155 = .ok (.aload_n 0, 1) := by decide +kernel
theorem dX_turn_156 : decode cX_turn 156 = .ok (.getfield 96, 3) := by decide +kernel
theorem dX_turn_159 : decode cX_turn 159 = .ok (.aload_n 0, 1) := by decide +kernel
theorem dX_turn_160 : decode cX_turn 160 = .ok (.getfield 72, 3) := by decide +kernel
theorem dX_turn_163 : decode cX_turn 163 = .ok (.iadd, 1) := by decide +kernel
theorem dX_turn_164 : decode cX_turn 164 = .ok (.istore_n 2, 1) := by decide +kernel
theorem dX_turn_165 : decode cX_turn 165 = .ok (.aload_n 0, 1) := by decide +kernel
theorem dX_turn_166 : decode cX_turn 166 = .ok (.getfield 87, 3) := by decide +kernel
theorem dX_turn_169 : decode cX_turn 169 = .ok (.aload_n 0, 1) := by decide +kernel
theorem dX_turn_170 : decode cX_turn 170 = .ok (.getfield 96, 3) := by decide +kernel
theorem dX_turn_173 : decode cX_turn 173 = .ok (.iload_n 2, 1) := by decide +kernel
theorem dX_turn_174 : decode cX_turn 174 = .ok (.if_icmp .le 10, 3) := by decide +kernel
theorem dX_turn_177 : decode cX_turn 177 = .ok (.aload_n 0, 1) := by decide +kernel
theorem dX_turn_178 : decode cX_turn 178 = .ok (.getfield 96, 3) := by decide +kernel
theorem dX_turn_181 : decode cX_turn 181 = .ok (.goto 4, 3) := by decide +kernel
theorem dX_turn_184 : decode cX_turn 184 = .ok (.iload_n 2, 1) := by decide +kernel
theorem dX_turn_185 : decode cX_turn 185 = .ok (.isub, 1) := by decide +kernel
theorem dX_turn_186 : decode cX_turn 186 = .ok (.istore_n 3, 1) := by decide +kernel
theorem dX_turn_187 : decode cX_turn 187 = .ok (.aload_n 0, 1) := by decide +kernel
theorem dX_turn_188 : decode cX_turn 188 = .ok (.getfield 90, 3) := by decide +kernel
theorem dX_turn_191 : decode cX_turn 191 = .ok (.aload_n 0, 1) := by decide +kernel
theorem dX_turn_192 : decode cX_turn 192 = .ok (.getfield 93, 3) := by decide +kernel
theorem dX_turn_195 : decode cX_turn 195 = .ok (.iload_n 1, 1) := by decide +kernel
theorem dX_turn_196 : decode cX_turn 196 = .ok (.if_icmp .ge 10, 3) := by decide +kernel
theorem dX_turn_199 : decode cX_turn 199 = .ok (.aload_n 0, 1) := by decide +kernel
theorem dX_turn_200 : decode cX_turn 200 = .ok (.getfield 93, 3) := by decide +kernel
theorem dX_turn_203 : decode cX_turn 203 = .ok (.goto 4, 3) := by decide +kernel
theorem dX_turn_206 : decode cX_turn 206 = .ok (.iload_n 1, 1) := by decide +kernel
theorem dX_turn_207 : decode cX_turn 207 = .ok (.isub, 1) := by decide +kernel
theorem dX_turn_208 : decode cX_turn 208 = .ok (.istore 4, 2) := by decide +kernel
theorem dX_turn_210 : decode cX_turn 210 = .ok (.iconst 0, 1) := by decide +kernel
theorem dX_turn_211 : decode cX_turn 211 = .ok (.istore 5, 2) := by decide +kernel
theorem dX_turn_213 : decode cX_turn 213 = .ok (.iload 5, 2) := by decide +kernel
theorem dX_turn_215 : decode cX_turn 215 = .ok (.iconst 4, 1) := by decide +kernel
theorem dX_turn_216 : decode cX_turn 216 = .ok (.if_icmp .ge 119, 3) := by decide +kernel
theorem dX_turn_219 : decode cX_turn 219 = .ok (.aload_n 0, 1) := by decide +kernel
theorem dX_turn_220 : decode cX_turn 220 = .ok (.getfield 16, 3) := by decide +kernel
theorem dX_turn_223 : decode cX_turn 223 = .ok (.iconst 2, 1) := by decide +kernel
theorem dX_turn_224 : decode cX_turn 224 = .ok (.iload 5, 2) := by decide +kernel
theorem dX_turn_226 : decode cX_turn 226 = .ok (.iadd, 1) := by decide +kernel
theorem dX_turn_227 : decode cX_turn 227 = .ok (.baload, 1) := by decide +kernel
theorem dX_turn_228 : decode cX_turn 228 = .ok (.ifCond .ne 20, 3) := by decide +kernel
theorem dX_turn_231 : decode cX_turn 231 = .ok (.aload_n 0, 1) := by decide +kernel
theorem dX_turn_232 : decode cX_turn 232 = .ok (.getfield 16, 3) := by decide +kernel
theorem dX_turn_235 : decode cX_turn 235 = .ok (.bipush 6, 2) := by decide +kernel
theorem dX_turn_237 : decode cX_turn 237 = .ok (.iload 5, 2) := by decide +kernel
theorem dX_turn_239 : decode cX_turn 239 = .ok (.iadd, 1) := by decide +kernel
theorem dX_turn_240 : decode cX_turn 240 = .ok (.baload, 1) := by decide +kernel
theorem dX_turn_241 : decode cX_turn 241 = .ok (.ifCond .ne 7, 3) := by decide +kernel
theorem dX_turn_244 : decode cX_turn 244 = .ok (.iconst 1, 1) := by decide +kernel
theorem dX_turn_245 : decode cX_turn 245 = .ok (.goto 4, 3) := by decide +kernel
theorem dX_turn_248 : decode cX_turn 248 = .ok (.iconst 0, 1) := by decide +kernel
theorem dX_turn_249 : decode cX_turn 249 = .ok (.istore 6, 2) := by decide +kernel
theorem dX_turn_251 : decode cX_turn 251 = .ok (.iload 6, 2) := by decide +kernel
theorem dX_turn_253 : decode cX_turn 253 = .ok (.ifCond .eq 52, 3) := by decide +kernel
theorem dX_turn_256 : decode cX_turn 256 = .ok (.aload_n 0, 1) := by decide +kernel
theorem dX_turn_257 : decode cX_turn 257 = .ok (.getfield 19, 3) := by decide +kernel
theorem dX_turn_260 : decode cX_turn 260 = .ok (.iload 5, 2) := by decide +kernel
theorem dX_turn_262 : decode cX_turn 262 = .ok (.baload, 1) := by decide +kernel
theorem dX_turn_263 : decode cX_turn 263 = .ok (.ifCond .eq 42, 3) := by decide +kernel
theorem dX_turn_266 : decode cX_turn 266 = .ok (.aload_n 0, 1) := by decide +kernel
theorem dX_turn_267 : decode cX_turn 267 = .ok (.getfield 22, 3) := by decide +kernel
theorem dX_turn_270 : decode cX_turn 270 = .ok (.iload 5, 2) := by decide +kernel
theorem dX_turn_272 : decode cX_turn 272 = .ok (.baload, 1) := by decide +kernel
theorem dX_turn_273 : decode cX_turn 273 = .ok (.ifCond .eq 32, 3) := by decide +kernel
theorem dX_turn_276 : decode cX_turn 276 = .ok (.aload_n 0, 1) := by decide +kernel
theorem dX_turn_277 : decode cX_turn 277 = .ok (.getfield 25, 3) := by decide +kernel
theorem dX_turn_280 : decode cX_turn 280 = .ok (.iload 5, 2) := by decide +kernel
theorem dX_turn_282 : decode cX_turn 282 = .ok (.baload, 1) := by decide +kernel
theorem dX_turn_283 : decode cX_turn 283 = .ok (.ifCond .eq 22, 3) := by decide +kernel
theorem dX_turn_286 : decode cX_turn 286 = .ok (.iload_n 3, 1) := by decide +kernel
theorem dX_turn_287 : decode cX_turn 287 = .ok (.aload_n 0, 1) := by decide +kernel
theorem dX_turn_288 : decode cX_turn 288 = .ok (.getfield 78, 3) := by decide +kernel
theorem dX_turn_291 : decode cX_turn 291 = .ok (.iadd, 1) := by decide +kernel
theorem dX_turn_292 : decode cX_turn 292 = .ok (.istore_n 3, 1) := by decide +kernel
theorem dX_turn_293 : decode cX_turn 293 = .ok (.iload 4, 2) := by decide +kernel
theorem dX_turn_295 : decode cX_turn 295 = .ok (.aload_n 0, 1) := by decide +kernel
theorem dX_turn_296 : decode cX_turn 296 = .ok (.getfield 78, 3) := by decide +kernel
theorem dX_turn_299 : decode cX_turn 299 = .ok (.iadd, 1) := by decide +kernel
theorem dX_turn_300 : decode cX_turn 300 = .ok (.istore 4, 2) := by decide +kernel
theorem dX_turn_302 : decode cX_turn 302 = .ok (.goto 27, 3) := by decide +kernel
theorem dX_turn_305 : decode cX_turn 305 = .ok (.iload 6, 2) := by decide +kernel
theorem dX_turn_307 : decode cX_turn 307 = .ok (.ifCond .eq 13, 3) := by decide +kernel
theorem dX_turn_310 : decode cX_turn 310 = .ok (.aload_n 0, 1) := by decide +kernel
theorem dX_turn_311 : decode cX_turn 311 = .ok (.getfield 19, 3) := by decide +kernel
theorem dX_turn_314 : decode cX_turn 314 = .ok (.iload 5, 2) := by decide +kernel
theorem dX_turn_316 : decode cX_turn 316 = .ok (.baload, 1) := by decide +kernel
theorem dX_turn_317 : decode cX_turn 317 = .ok (.ifCond .eq 12, 3) := by decide +kernel
theorem dX_turn_320 : decode cX_turn 320 = .ok (.iload 4, 2) := by decide +kernel
theorem dX_turn_322 : decode cX_turn 322 = .ok (.aload_n 0, 1) := by decide +kernel
theorem dX_turn_323 : decode cX_turn 323 = .ok (.getfield 78, 3) := by decide +kernel
theorem dX_turn_326 : decode cX_turn 326 = .ok (.iadd, 1) := by decide +kernel
theorem dX_turn_327 : decode cX_turn 327 = .ok (.istore 4, 2) := by decide +kernel
theorem dX_turn_329 : decode cX_turn 329 = .ok (.iinc 5 1, 3) := by decide +kernel
theorem dX_turn_332 : decode cX_turn 332 = .ok (.goto (-119), 3) := by decide +kernel
theorem dX_turn_335 : decode cX_turn 335 = .ok (.iload_n 3, 1) := by decide +kernel
theorem dX_turn_336 : decode cX_turn 336 = .ok (.ifCond .ge 7, 3) := by decide +kernel
theorem dX_turn_339 : decode cX_turn 339 = .ok (.iconst 0, 1) := by decide +kernel
theorem dX_turn_340 : decode cX_turn 340 = .ok (.goto 19, 3) := by decide +kernel
theorem dX_turn_343 : decode cX_turn 343 = .ok (.iload_n 3, 1) := by decide +kernel
theorem dX_turn_344 : decode cX_turn 344 = .ok (.aload_n 0, 1) := by decide +kernel
theorem dX_turn_345 : decode cX_turn 345 = .ok (.getfield 54, 3) := by decide +kernel
theorem dX_turn_348 : decode cX_turn 348 = .ok (.if_icmp .le 10, 3) := by decide +kernel
theorem dX_turn_351 : decode cX_turn 351 = .ok (.aload_n 0, 1) := by decide +kernel
theorem dX_turn_352 : decode cX_turn 352 = .ok (.getfield 54, 3) := by decide +kernel
theorem dX_turn_355 : decode cX_turn 355 = .ok (.goto 4, 3) := by decide +kernel
theorem dX_turn_358 : decode cX_turn 358 = .ok (.iload_n 3, 1) := by decide +kernel
theorem dX_turn_359 : decode cX_turn 359 = .ok (.istore_n 3, 1) := by decide +kernel
theorem dX_turn_360 : decode cX_turn 360 = .ok (.iload 4, 2) := by decide +kernel
theorem dX_turn_362 : decode cX_turn 362 = .ok (.ifCond .ge 7, 3) := by decide +kernel
theorem dX_turn_365 : decode cX_turn 365 = .ok (.iconst 0, 1) := by decide +kernel
theorem dX_turn_366 : decode cX_turn 366 = .ok (.goto 21, 3) := by decide +kernel
theorem dX_turn_369 : decode cX_turn 369 = .ok (.iload 4, 2) := by decide +kernel
theorem dX_turn_371 : decode cX_turn 371 = .ok (.aload_n 0, 1) := by decide +kernel
theorem dX_turn_372 : decode cX_turn 372 = .ok (.getfield 54, 3) := by decide +kernel
theorem dX_turn_375 : decode cX_turn 375 = .ok (.if_icmp .le 10, 3) := by decide +kernel
theorem dX_turn_378 : decode cX_turn 378 = .ok (.aload_n 0, 1) := by decide +kernel
theorem dX_turn_379 : decode cX_turn 379 = .ok (.getfield 54, 3) := by decide +kernel
theorem dX_turn_382 : decode cX_turn 382 = .ok (.goto 5, 3) := by decide +kernel
theorem dX_turn_385 : decode cX_turn 385 = .ok (.iload 4, 2) := by decide +kernel
theorem dX_turn_387 : decode cX_turn 387 = .ok (.istore 4, 2) := by decide +kernel
theorem dX_turn_389 : decode cX_turn 389 = .ok (.aload_n 0, 1) := by decide +kernel
theorem dX_turn_390 : decode cX_turn 390 = .ok (.getfield 81, 3) := by decide +kernel
theorem dX_turn_393 : decode cX_turn 393 = .ok (.ifCond .ne 18, 3) := by decide +kernel
theorem dX_turn_396 : decode cX_turn 396 = .ok (.iconst 0, 1) := by decide +kernel
theorem dX_turn_397 : decode cX_turn 397 = .ok (.istore_n 1, 1) := by decide +kernel
theorem dX_turn_398 : decode cX_turn 398 = .ok (.aload_n 0, 1) := by decide +kernel
theorem dX_turn_399 : decode cX_turn 399 = .ok (.getfield 69, 3) := by decide +kernel
theorem dX_turn_402 : decode cX_turn 402 = .ok (.istore_n 2, 1) := by decide +kernel
theorem dX_turn_403 : decode cX_turn 403 = .ok (.iconst 0, 1) := by decide +kernel
theorem dX_turn_404 : decode cX_turn 404 = .ok (.istore_n 3, 1) := by decide +kernel
theorem dX_turn_405 : decode cX_turn 405 = .ok (.aload_n 0, 1) := by decide +kernel
theorem dX_turn_406 : decode cX_turn 406 = .ok (.getfield 54, 3) := by decide +kernel
theorem dX_turn_409 : decode cX_turn 409 = .ok (.istore 4, 2) := by decide +kernel
theorem dX_turn_411 : decode cX_turn 411 = .ok (.aload_n 0, 1) := by decide +kernel
theorem dX_turn_412 : decode cX_turn 412 = .ok (.getfield 81, 3) := by decide +kernel
theorem dX_turn_415 : decode cX_turn 415 = .ok (.ifCond .ne 7, 3) := by decide +kernel
theorem dX_turn_418 : decode cX_turn 418 = .ok (.iconst 1, 1) := by decide +kernel
theorem dX_turn_419 : decode cX_turn 419 = .ok (.goto 4, 3) := by decide +kernel
theorem dX_turn_422 : decode cX_turn 422 = .ok (.iconst 0, 1) := by decide +kernel
theorem dX_turn_423 : decode cX_turn 423 = .ok (.istore 5, 2) := by decide +kernel
theorem dX_turn_425 : decode cX_turn 425 = .ok (.aload_n 0, 1) := by decide +kernel
theorem dX_turn_426 : decode cX_turn 426 = .ok (.iconst 0, 1) := by decide +kernel
theorem dX_turn_427 : decode cX_turn 427 = .ok (.aload_n 0, 1) := by decide +kernel
theorem dX_turn_428 : decode cX_turn 428 = .ok (.getfield 155, 3) := by decide +kernel
theorem dX_turn_431 : decode cX_turn 431 = .ok (.iconst 0, 1) := by decide +kernel
theorem dX_turn_432 : decode cX_turn 432 = .ok (.aload_n 0, 1) := by decide +kernel
theorem dX_turn_433 : decode cX_turn 433 = .ok (.getfield 54, 3) := by decide +kernel
theorem dX_turn_436 : decode cX_turn 436 = .ok (.invokestatic 147, 3) := by decide +kernel
theorem dX_turn_439 : decode cX_turn 439 = .ok (.ifCond .eq 21, 3) := by decide +kernel
theorem dX_turn_442 : decode cX_turn 442 = .ok (.iload 5, 2) := by decide +kernel
theorem dX_turn_444 : decode cX_turn 444 = .ok (.ifCond .ne 20, 3) := by decide +kernel
theorem dX_turn_447 : decode cX_turn 447 = .ok (.aload_n 0, 1) := by decide +kernel
theorem dX_turn_448 : decode cX_turn 448 = .ok (.getfield 155, 3) := by decide +kernel
theorem dX_turn_451 : decode cX_turn 451 = .ok (.iload_n 3, 1) := by decide +kernel
theorem dX_turn_452 : decode cX_turn 452 = .ok (.iload 4, 2) := by decide +kernel
theorem dX_turn_454 : decode cX_turn 454 = .ok (.invokestatic 147, 3) := by decide +kernel
theorem dX_turn_457 : decode cX_turn 457 = .ok (.ifCond .ne 7, 3) := by decide +kernel
theorem dX_turn_460 : decode cX_turn 460 = .ok (.iconst 1, 1) := by decide +kernel
theorem dX_turn_461 : decode cX_turn 461 = .ok (.goto 4, 3) := by decide +kernel
theorem dX_turn_464 : decode cX_turn 464 = .ok (.iconst 0, 1) := by decide +kernel
theorem dX_turn_465 : decode cX_turn 465 = .ok (.invokevirtual 168, 3) := by decide +kernel
theorem dX_turn_468 : decode cX_turn 468 = .ok (.aload_n 0, 1) := by decide +kernel
theorem dX_turn_469 : decode cX_turn 469 = .ok (.iconst 1, 1) := by decide +kernel
theorem dX_turn_470 : decode cX_turn 470 = .ok (.aload_n 0, 1) := by decide +kernel
theorem dX_turn_471 : decode cX_turn 471 = .ok (.getfield 158, 3) := by decide +kernel
theorem dX_turn_474 : decode cX_turn 474 = .ok (.iconst 0, 1) := by decide +kernel
theorem dX_turn_475 : decode cX_turn 475 = .ok (.aload_n 0, 1) := by decide +kernel
theorem dX_turn_476 : decode cX_turn 476 = .ok (.getfield 69, 3) := by decide +kernel
theorem dX_turn_479 : decode cX_turn 479 = .ok (.invokestatic 147, 3) := by decide +kernel
theorem dX_turn_482 : decode cX_turn 482 = .ok (.ifCond .eq 20, 3) := by decide +kernel
theorem dX_turn_485 : decode cX_turn 485 = .ok (.iload 5, 2) := by decide +kernel
theorem dX_turn_487 : decode cX_turn 487 = .ok (.ifCond .ne 19, 3) := by decide +kernel
theorem dX_turn_490 : decode cX_turn 490 = .ok (.aload_n 0, 1) := by decide +kernel
theorem dX_turn_491 : decode cX_turn 491 = .ok (.getfield 158, 3) := by decide +kernel
theorem dX_turn_494 : decode cX_turn 494 = .ok (.iload_n 1, 1) := by decide +kernel
theorem dX_turn_495 : decode cX_turn 495 = .ok (.iload_n 2, 1) := by decide +kernel
theorem dX_turn_496 : decode cX_turn 496 = .ok (.invokestatic 147, 3) := by decide +kernel
theorem dX_turn_499 : decode cX_turn 499 = .ok (.ifCond .ne 7, 3) := by decide +kernel
theorem dX_turn_502 : decode cX_turn 502 = .ok (.iconst 1, 1) := by decide +kernel
theorem dX_turn_503 : decode cX_turn 503 = .ok (.goto 4, 3) := by decide +kernel
theorem dX_turn_506 : decode cX_turn 506 = .ok (.iconst 0, 1) := by decide +kernel
theorem dX_turn_507 : decode cX_turn 507 = .ok (.invokevirtual 168, 3) := by decide +kernel
theorem dX_turn_510 : decode cX_turn 510 = .ok (.iconst 0, 1) := by decide +kernel
theorem dX_turn_511 : decode cX_turn 511 = .ok (.istore 6, 2) := by decide +kernel
theorem dX_turn_513 : decode cX_turn 513 = .ok (.iload 6, 2) := by decide +kernel
theorem dX_turn_515 : decode cX_turn 515 = .ok (.iconst 4, 1) := by decide +kernel
theorem dX_turn_516 : decode cX_turn 516 = .ok (.if_icmp .ge 39, 3) := by decide +kernel
theorem dX_turn_519 : decode cX_turn 519 = .ok (.aload_n 0, 1) := by decide +kernel
theorem dX_turn_520 : decode cX_turn 520 = .ok (.iconst 2, 1) := by decide +kernel
theorem dX_turn_521 : decode cX_turn 521 = .ok (.iload 6, 2) := by decide +kernel
theorem dX_turn_523 : decode cX_turn 523 = .ok (.iadd, 1) := by decide +kernel
theorem dX_turn_524 : decode cX_turn 524 = .ok (.aload_n 0, 1) := by decide +kernel
theorem dX_turn_525 : decode cX_turn 525 = .ok (.getfield 31, 3) := by decide +kernel
theorem dX_turn_528 : decode cX_turn 528 = .ok (.iload 6, 2) := by decide +kernel
theorem dX_turn_530 : decode cX_turn 530 = .ok (.baload, 1) := by decide +kernel
theorem dX_turn_531 : decode cX_turn 531 = .ok (.aload_n 0, 1) := by decide +kernel
theorem dX_turn_532 : decode cX_turn 532 = .ok (.getfield 19, 3) := by decide +kernel
theorem dX_turn_535 : decode cX_turn 535 = .ok (.iload 6, 2) := by decide +kernel
theorem dX_turn_537 : decode cX_turn 537 = .ok (.baload, 1) := by decide +kernel
theorem dX_turn_538 : decode cX_turn 538 = .ok (.if_icmp .eq 7, 3) := by decide +kernel
theorem dX_turn_541 : decode cX_turn 541 = .ok (.iconst 1, 1) := by decide +kernel
theorem dX_turn_542 : decode cX_turn 542 = .ok (.goto 4, 3) := by decide +kernel
theorem dX_turn_545 : decode cX_turn 545 = .ok (.iconst 0, 1) := by decide +kernel
theorem dX_turn_546 : decode cX_turn 546 = .ok (.invokevirtual 168, 3) := by decide +kernel
theorem dX_turn_549 : decode cX_turn 549 = .ok (.iinc 6 1, 3) := by decide +kernel
theorem dX_turn_552 : decode cX_turn 552 = .ok (.goto (-39), 3) := by decide +kernel
theorem dX_turn_555 : decode cX_turn 555 = .ok (.iconst 0, 1) := by decide +kernel
theorem dX_turn_556 : decode cX_turn 556 = .ok (.istore 6, 2) := by decide +kernel
theorem dX_turn_558 : decode cX_turn 558 = .ok (.iload 6, 2) := by decide +kernel
theorem dX_turn_560 : decode cX_turn 560 = .ok (.iconst 4, 1) := by decide +kernel
theorem dX_turn_561 : decode cX_turn 561 = .ok (.if_icmp .ge 83, 3) := by decide +kernel
theorem dX_turn_564 : decode cX_turn 564 = .ok (.aload_n 0, 1) := by decide +kernel
theorem dX_turn_565 : decode cX_turn 565 = .ok (.getfield 7, 3) := by decide +kernel
theorem dX_turn_568 : decode cX_turn 568 = .ok (.iconst 2, 1) := by decide +kernel
theorem dX_turn_569 : decode cX_turn 569 = .ok (.iload 6, 2) := by decide +kernel
theorem dX_turn_571 : decode cX_turn 571 = .ok (.iadd, 1) := by decide +kernel
theorem dX_turn_572 : decode cX_turn 572 = .ok (.baload, 1) := by decide +kernel
theorem dX_turn_573 : decode cX_turn 573 = .ok (.ifCond .ne 65, 3) := by decide +kernel
theorem dX_turn_576 : decode cX_turn 576 = .ok (.aload_n 0, 1) := by decide +kernel
theorem dX_turn_577 : decode cX_turn 577 = .ok (.bipush 6, 2) := by decide +kernel
theorem dX_turn_579 : decode cX_turn 579 = .ok (.iload 6, 2) := by decide +kernel
theorem dX_turn_581 : decode cX_turn 581 = .ok (.iadd, 1) := by decide +kernel
theorem dX_turn_582 : decode cX_turn 582 = .ok (.aload_n 0, 1) := by decide +kernel
theorem dX_turn_583 : decode cX_turn 583 = .ok (.getfield 34, 3) := by decide +kernel
theorem dX_turn_586 : decode cX_turn 586 = .ok (.iload 6, 2) := by decide +kernel
theorem dX_turn_588 : decode cX_turn 588 = .ok (.baload, 1) := by decide +kernel
theorem dX_turn_589 : decode cX_turn 589 = .ok (.ifCond .eq 21, 3) := by decide +kernel
theorem dX_turn_592 : decode cX_turn 592 = .ok (.aload_n 0, 1) := by decide +kernel
theorem dX_turn_593 : decode cX_turn 593 = .ok (.getfield 19, 3) := by decide +kernel
theorem dX_turn_596 : decode cX_turn 596 = .ok (.iload 6, 2) := by decide +kernel
theorem dX_turn_598 : decode cX_turn 598 = .ok (.baload, 1) := by decide +kernel
theorem dX_turn_599 : decode cX_turn 599 = .ok (.ifCond .ne 7, 3) := by decide +kernel
theorem dX_turn_602 : decode cX_turn 602 = .ok (.iconst 1, 1) := by decide +kernel
theorem dX_turn_603 : decode cX_turn 603 = .ok (.goto 32, 3) := by decide +kernel
theorem dX_turn_606 : decode cX_turn 606 = .ok (.iconst 0, 1) := by decide +kernel
theorem dX_turn_607 : decode cX_turn 607 = .ok (.goto 28, 3) := by decide +kernel
theorem dX_turn_610 : decode cX_turn 610 = .ok (.aload_n 0, 1) := by decide +kernel
theorem dX_turn_611 : decode cX_turn 611 = .ok (.getfield 19, 3) := by decide +kernel
theorem dX_turn_614 : decode cX_turn 614 = .ok (.iload 6, 2) := by decide +kernel
theorem dX_turn_616 : decode cX_turn 616 = .ok (.baload, 1) := by decide +kernel
theorem dX_turn_617 : decode cX_turn 617 = .ok (.ifCond .eq 17, 3) := by decide +kernel
theorem dX_turn_620 : decode cX_turn 620 = .ok (.aload_n 0, 1) := by decide +kernel
theorem dX_turn_621 : decode cX_turn 621 = .ok (.getfield 22, 3) := by decide +kernel
theorem dX_turn_624 : decode cX_turn 624 = .ok (.iload 6, 2) := by decide +kernel
theorem dX_turn_626 : decode cX_turn 626 = .ok (.baload, 1) := by decide +kernel
theorem dX_turn_627 : decode cX_turn 627 = .ok (.ifCond .eq 7, 3) := by decide +kernel
theorem dX_turn_630 : decode cX_turn 630 = .ok (.iconst 1, 1) := by decide +kernel
theorem dX_turn_631 : decode cX_turn 631 = .ok (.goto 4, 3) := by decide +kernel
theorem dX_turn_634 : decode cX_turn 634 = .ok (.iconst 0, 1) := by decide +kernel
theorem dX_turn_635 : decode cX_turn 635 = .ok (.invokevirtual 168, 3) := by decide +kernel
theorem dX_turn_638 : decode cX_turn 638 = .ok (.iinc 6 1, 3) := by decide +kernel
theorem dX_turn_641 : decode cX_turn 641 = .ok (.goto (-83), 3) := by decide +kernel
theorem dX_turn_644 : decode cX_turn 644 = .ok (.aload_n 0, 1) := by decide +kernel
theorem dX_turn_645 : decode cX_turn 645 = .ok (.aload_n 0, 1) := by decide +kernel
theorem dX_turn_646 : decode cX_turn 646 = .ok (.getfield 7, 3) := by decide +kernel
theorem dX_turn_649 : decode cX_turn 649 = .ok (.iconst 0, 1) := by decide +kernel
theorem dX_turn_650 : decode cX_turn 650 = .ok (.baload, 1) := by decide +kernel
theorem dX_turn_651 : decode cX_turn 651 = .ok (.ifCond .eq 7, 3) := by decide +kernel
theorem dX_turn_654 : decode cX_turn 654 = .ok (.iload_n 3, 1) := by decide +kernel
theorem dX_turn_655 : decode cX_turn 655 = .ok (.goto 7, 3) := by decide +kernel
theorem dX_turn_658 : decode cX_turn 658 = .ok (.aload_n 0, 1) := by decide +kernel
theorem dX_turn_659 : decode cX_turn 659 = .ok (.getfield 155, 3) := by decide +kernel
theorem dX_turn_662 : decode cX_turn 662 = .ok (.putfield 87, 3) := by decide +kernel
theorem dX_turn_665 : decode cX_turn 665 = .ok (.aload_n 0, 1) := by decide +kernel
theorem dX_turn_666 : decode cX_turn 666 = .ok (.aload_n 0, 1) := by decide +kernel
theorem dX_turn_667 : decode cX_turn 667 = .ok (.getfield 7, 3) := by decide +kernel
theorem dX_turn_670 : decode cX_turn 670 = .ok (.iconst 0, 1) := by decide +kernel
theorem dX_turn_671 : decode cX_turn 671 = .ok (.baload, 1) := by decide +kernel
theorem dX_turn_672 : decode cX_turn 672 = .ok (.ifCond .eq 8, 3) := by decide +kernel
theorem dX_turn_675 : decode cX_turn 675 = .ok (.iload 4, 2) := by decide +kernel
theorem dX_turn_677 : decode cX_turn 677 = .ok (.goto 7, 3) := by decide +kernel
theorem dX_turn_680 : decode cX_turn 680 = .ok (.aload_n 0, 1) := by decide +kernel
theorem dX_turn_681 : decode cX_turn 681 = .ok (.getfield 155, 3) := by decide +kernel
theorem dX_turn_684 : decode cX_turn 684 = .ok (.putfield 90, 3) := by decide +kernel
theorem dX_turn_687 : decode cX_turn 687 = .ok (.aload_n 0, 1) := by decide +kernel
theorem dX_turn_688 : decode cX_turn 688 = .ok (.aload_n 0, 1) := by decide +kernel
theorem dX_turn_689 : decode cX_turn 689 = .ok (.getfield 7, 3) := by decide +kernel
theorem dX_turn_692 : decode cX_turn 692 = .ok (.iconst 1, 1) := by decide +kernel
theorem dX_turn_693 : decode cX_turn 693 = .ok (.baload, 1) := by decide +kernel
theorem dX_turn_694 : decode cX_turn 694 = .ok (.ifCond .eq 7, 3) := by decide +kernel
theorem dX_turn_697 : decode cX_turn 697 = .ok (.iload_n 1, 1) := by decide +kernel
theorem dX_turn_698 : decode cX_turn 698 = .ok (.goto 7, 3) := by decide +kernel
theorem dX_turn_701 : decode cX_turn 701 = .ok (.aload_n 0, 1) := by decide +kernel
theorem dX_turn_702 : decode cX_turn 702 = .ok (.getfield 158, 3) := by decide +kernel
theorem dX_turn_705 : decode cX_turn 705 = .ok (.putfield 93, 3) := by decide +kernel
theorem dX_turn_708 : decode cX_turn 708 = .ok (.aload_n 0, 1) := by decide +kernel
theorem dX_turn_709 : decode cX_turn 709 = .ok (.aload_n 0, 1) := by decide +kernel
theorem dX_turn_710 : decode cX_turn 710 = .ok (.getfield 7, 3) := by decide +kernel
theorem dX_turn_713 : decode cX_turn 713 = .ok (.iconst 1, 1) := by decide +kernel
theorem dX_turn_714 : decode cX_turn 714 = .ok (.baload, 1) := by decide +kernel
theorem dX_turn_715 : decode cX_turn 715 = .ok (.ifCond .eq 7, 3) := by decide +kernel
theorem dX_turn_718 : decode cX_turn 718 = .ok (.iload_n 2, 1) := by decide +kernel
theorem dX_turn_719 : decode cX_turn 719 = .ok (.goto 7, 3) := by decide +kernel
theorem dX_turn_722 : decode cX_turn 722 = .ok (.aload_n 0, 1) := by decide +kernel
theorem dX_turn_723 : decode cX_turn 723 = .ok (.getfield 158, 3) := by decide +kernel
theorem dX_turn_726 : decode cX_turn 726 = .ok (.putfield 96, 3) := by decide +kernel
theorem dX_turn_729 : decode cX_turn 729 = .ok (.aload_n 0, 1) := by decide +kernel
theorem dX_turn_730 : decode cX_turn 730 = .ok (.dup, 1) := by decide +kernel
theorem dX_turn_731 : decode cX_turn 731 = .ok (.getfield 106, 3) := by decide +kernel
theorem dX_turn_734 : decode cX_turn 734 = .ok (.aload_n 0, 1) := by decide +kernel
theorem dX_turn_735 : decode cX_turn 735 = .ok (.getfield 121, 3) := by decide +kernel
theorem dX_turn_738 : decode cX_turn 738 = .ok (.ior, 1) := by decide +kernel
theorem dX_turn_739 : decode cX_turn 739 = .ok (.putfield 106, 3) := by decide +kernel
theorem dX_turn_742 : decode cX_turn 742 = .ok (.iload 5, 2) := by decide +kernel
theorem dX_turn_744 : decode cX_turn 744 = .ok (.ifCond .eq 13, 3) := by decide +kernel
theorem dX_turn_747 : decode cX_turn 747 = .ok (.aload_n 0, 1) := by decide +kernel
theorem dX_turn_748 : decode cX_turn 748 = .ok (.invokevirtual 172, 3) := by decide +kernel
theorem dX_turn_751 : decode cX_turn 751 = .ok (.ifCond .ne 15, 3) := by decide +kernel
theorem dX_turn_754 : decode cX_turn 754 = .ok (.goto 10, 3) := by decide +kernel
theorem dX_turn_757 : decode cX_turn 757 = .ok (.aload_n 0, 1) := by decide +kernel
theorem dX_turn_758 : decode cX_turn 758 = .ok (.invokevirtual 175, 3) := by decide +kernel
theorem dX_turn_761 : decode cX_turn 761 = .ok (.ifCond .ne 5, 3) := by decide +kernel
theorem dX_turn_764 : decode cX_turn 764 = .ok (.iconst 0, 1) := by decide +kernel
theorem dX_turn_765 : decode cX_turn 765 = .ok (.ireturn, 1) := by decide +kernel
theorem dX_turn_766 : decode cX_turn 766 = .ok (.aload_n 0, 1) := by decide +kernel
theorem dX_turn_767 : decode cX_turn 767 = .ok (.invokevirtual 178, 3) := by decide +kernel
theorem dX_turn_770 : decode cX_turn 770 = .ok (.iconst 1, 1) := by decide +kernel
theorem dX_turn_771 : decode cX_turn 771 = .ok (.ireturn, 1) := by decide +kernel
theorem dX_find_0 : decode cX_find 0 = .ok (.iload_n 2, 1) := by decide +kernel
theorem dX_find_1 : decode cX_find 1 = .ok (.ifCond .eq 12, 3) := by decide +kernel
theorem dX_find_4 : decode cX_find 4 = .ok (.aload_n 0, 1) := by decide +kernel
theorem dX_find_5 : decode cX_find 5 = .ok (.getfield 7, 3) := by decide +kernel
theorem dX_find_8 : decode cX_find 8 = .ok (.iload_n 1, 1) := by decide +kernel
theorem dX_find_9 : decode cX_find 9 = .ok (.baload, 1) := by decide +kernel
theorem dX_find_10 : decode cX_find 10 = .ok (.ifCond .eq 4, 3) := by decide +kernel
theorem dX_find_13 : decode cX_find 13 = .ok (.return_, 1) := by decide +kernel
theorem dX_find_14 : decode cX_find 14 = .ok (.aload_n 0, 1) := by decide +kernel
theorem dX_find_15 : decode cX_find 15 = .ok (.getfield 7, 3) := by decide +kernel
theorem dX_find_18 : decode cX_find 18 = .ok (.iload_n 1, 1) := by decide +kernel
theorem dX_find_19 : decode cX_find 19 = .ok (.iconst 1, 1) := by decide +kernel
theorem dX_find_20 : decode cX_find 20 = .ok (.bastore, 1) := by decide +kernel
theorem dX_find_21 : decode cX_find 21 = .ok (.aload_n 0, 1) := by decide +kernel
theorem dX_find_22 : decode cX_find 22 = .ok (.getfield 13, 3) := by decide +kernel
theorem dX_find_25 : decode cX_find 25 = .ok (.iload_n 1, 1) := by decide +kernel
theorem dX_find_26 : decode cX_find 26 = .ok (.iconst 0, 1) := by decide +kernel
theorem dX_find_27 : decode cX_find 27 = .ok (.bastore, 1) := by decide +kernel
theorem dX_find_28 : decode cX_find 28 = .ok (.aload_n 0, 1) := by decide +kernel
theorem dX_find_29 : decode cX_find 29 = .ok (.dup, 1) := by decide +kernel
theorem dX_find_30 : decode cX_find 30 = .ok (.getfield 130, 3) := by decide +kernel
theorem dX_find_33 : decode cX_find 33 = .ok (.iconst 1, 1) := by decide +kernel
theorem dX_find_34 : decode cX_find 34 = .ok (.iload_n 1, 1) := by decide +kernel
theorem dX_find_35 : decode cX_find 35 = .ok (.ishl, 1) := by decide +kernel
theorem dX_find_36 : decode cX_find 36 = .ok (.ior, 1) := by decide +kernel
theorem dX_find_37 : decode cX_find 37 = .ok (.putfield 130, 3) := by decide +kernel
theorem dX_find_40 : decode cX_find 40 = .ok (.return_, 1) := by decide +kernel
theorem dX_units_0 : decode cX_units 0 = .ok (.iconst 0, 1) := by decide +kernel
theorem dX_units_1 : decode cX_units 1 = .ok (.istore_n 1, 1) := by decide +kernel
theorem dX_units_2 : decode cX_units 2 = .ok (.iload_n 1, 1) := by decide +kernel
theorem dX_units_3 : decode cX_units 3 = .ok (.bipush 10, 2) := by decide +kernel
theorem dX_units_5 : decode cX_units 5 = .ok (.if_icmp .ge 68, 3) := by decide +kernel
theorem dX_units_8 : decode cX_units 8 = .ok (.aload_n 0, 1) := by decide +kernel
theorem dX_units_9 : decode cX_units 9 = .ok (.getfield 37, 3) := by decide +kernel
theorem dX_units_12 : decode cX_units 12 = .ok (.iload_n 1, 1) := by decide +kernel
theorem dX_units_13 : decode cX_units 13 = .ok (.baload, 1) := by decide +kernel
theorem dX_units_14 : decode cX_units 14 = .ok (.ifCond .ne 6, 3) := by decide +kernel
theorem dX_units_17 : decode cX_units 17 = .ok (.goto 50, 3) := by decide +kernel
theorem dX_units_20 : decode cX_units 20 = .ok (.aload_n 0, 1) := by decide +kernel
theorem dX_units_21 : decode cX_units 21 = .ok (.getfield 7, 3) := by decide +kernel
theorem dX_units_24 : decode cX_units 24 = .ok (.iload_n 1, 1) := by decide +kernel
theorem dX_units_25 : decode cX_units 25 = .ok (.baload, 1) := by decide +kernel
theorem dX_units_26 : decode cX_units 26 = .ok (.ifCond .eq 32, 3) := by decide +kernel
theorem dX_units_29 : decode cX_units 29 = .ok (.aload_n 0, 1) := by decide +kernel
theorem dX_units_30 : decode cX_units 30 = .ok (.getfield 7, 3) := by decide +kernel
theorem dX_units_33 : decode cX_units 33 = .ok (.iload_n 1, 1) := by decide +kernel
theorem dX_units_34 : decode cX_units 34 = .ok (.iconst 0, 1) := by decide +kernel
theorem dX_units_35 : decode cX_units 35 = .ok (.bastore, 1) := by decide +kernel
theorem dX_units_36 : decode cX_units 36 = .ok (.aload_n 0, 1) := by decide +kernel
theorem dX_units_37 : decode cX_units 37 = .ok (.getfield 13, 3) := by decide +kernel
theorem dX_units_40 : decode cX_units 40 = .ok (.iload_n 1, 1) := by decide +kernel
theorem dX_units_41 : decode cX_units 41 = .ok (.iconst 0, 1) := by decide +kernel
theorem dX_units_42 : decode cX_units 42 = .ok (.bastore, 1) := by decide +kernel
theorem dX_units_43 : decode cX_units 43 = .ok (.aload_n 0, 1) := by decide +kernel
theorem dX_units_44 : decode cX_units 44 = .ok (.dup, 1) := by decide +kernel
theorem dX_units_45 : decode cX_units 45 = .ok (.getfield 133, 3) := by decide +kernel
theorem dX_units_48 : decode cX_units 48 = .ok (.iconst 1, 1) := by decide +kernel
theorem dX_units_49 : decode cX_units 49 = .ok (.iload_n 1, 1) := by decide +kernel
theorem dX_units_50 : decode cX_units 50 = .ok (.ishl, 1) := by decide +kernel
theorem dX_units_51 : decode cX_units 51 = .ok (.ior, 1) := by decide +kernel
theorem dX_units_52 : decode cX_units 52 = .ok (.putfield 133, 3) := by decide +kernel
theorem dX_units_55 : decode cX_units 55 = .ok (.goto 12, 3) := by decide +kernel
theorem dX_units_58 : decode cX_units 58 = .ok (.aload_n 0, 1) := by decide +kernel
theorem dX_units_59 : decode cX_units 59 = .ok (.getfield 81, 3) := by decide +kernel
theorem dX_units_62 : decode cX_units 62 = .ok (.ifCond .eq 5, 3) := by decide +kernel
theorem dX_units_65 : decode cX_units 65 = .ok (.iconst 0, 1) := by decide +kernel
theorem dX_units_66 : decode cX_units 66 = .ok (.ireturn, 1) := by decide +kernel
theorem dX_units_67 : decode cX_units 67 = .ok (.iinc 1 1, 3) := by decide +kernel
theorem dX_units_70 : decode cX_units 70 = .ok (.goto (-68), 3) := by decide +kernel
theorem dX_units_73 : decode cX_units 73 = .ok (.iconst 0, 1) := by decide +kernel
theorem dX_units_74 : decode cX_units 74 = .ok (.istore_n 1, 1) := by decide +kernel
theorem dX_units_75 : decode cX_units 75 = .ok (.iload_n 1, 1) := by decide +kernel
theorem dX_units_76 : decode cX_units 76 = .ok (.bipush 10, 2) := by decide +kernel
theorem dX_units_78 : decode cX_units 78 = .ok (.if_icmp .ge 58, 3) := by decide +kernel
theorem dX_units_81 : decode cX_units 81 = .ok (.aload_n 0, 1) := by decide +kernel
theorem dX_units_82 : decode cX_units 82 = .ok (.getfield 40, 3) := by decide +kernel
theorem dX_units_85 : decode cX_units 85 = .ok (.iload_n 1, 1) := by decide +kernel
theorem dX_units_86 : decode cX_units 86 = .ok (.baload, 1) := by decide +kernel
theorem dX_units_87 : decode cX_units 87 = .ok (.ifCond .ne 6, 3) := by decide +kernel
theorem dX_units_90 : decode cX_units 90 = .ok (.goto 40, 3) := by decide +kernel
theorem dX_units_93 : decode cX_units 93 = .ok (.aload_n 0, 1) := by decide +kernel
theorem dX_units_94 : decode cX_units 94 = .ok (.getfield 7, 3) := by decide +kernel
theorem dX_units_97 : decode cX_units 97 = .ok (.iload_n 1, 1) := by decide +kernel
theorem dX_units_98 : decode cX_units 98 = .ok (.baload, 1) := by decide +kernel
theorem dX_units_99 : decode cX_units 99 = .ok (.ifCond .eq 22, 3) := by decide +kernel
theorem dX_units_102 : decode cX_units 102 = .ok (.aload_n 0, 1) := by decide +kernel
theorem dX_units_103 : decode cX_units 103 = .ok (.getfield 13, 3) := by decide +kernel
theorem dX_units_106 : decode cX_units 106 = .ok (.iload_n 1, 1) := by decide +kernel
theorem dX_units_107 : decode cX_units 107 = .ok (.baload, 1) := by decide +kernel
theorem dX_units_108 : decode cX_units 108 = .ok (.ifCond .ne 13, 3) := by decide +kernel
theorem dX_units_111 : decode cX_units 111 = .ok (.aload_n 0, 1) := by decide +kernel
