theorem dL_isPupil_185 : decode cL_isPupil 185 = .ok (.goto (-175), 3) := by decide +kernel
theorem dL_isPupil_188 : decode cL_isPupil 188 = .ok (.aload_n 0, 1) := by decide +kernel
theorem dL_isPupil_189 : decode cL_isPupil 189 = .ok (.iload_n 1, 1) := by decide +kernel
theorem dL_isPupil_190 : decode cL_isPupil 190 = .ok (.bipush 11, 2) := by decide +kernel
theorem dL_isPupil_192 : decode cL_isPupil 192 = .ok (.invokevirtual 59, 3) := by decide +kernel
theorem dL_isPupil_195 : decode cL_isPupil 195 = .ok (.iload_n 2, 1) := by decide +kernel
theorem dL_isPupil_196 : decode cL_isPupil 196 = .ok (.if_icmp .ne 14, 3) := by decide +kernel
theorem dL_isPupil_199 : decode cL_isPupil 199 = .ok (.aload_n 0, 1) := by decide +kernel
theorem dL_isPupil_200 : decode cL_isPupil 200 = .ok (.iload_n 1, 1) := by decide +kernel
theorem dL_isPupil_201 : decode cL_isPupil 201 = .ok (.bipush 12, 2) := by decide +kernel
theorem dL_isPupil_203 : decode cL_isPupil 203 = .ok (.invokevirtual 59, 3) := by decide +kernel
theorem dL_isPupil_206 : decode cL_isPupil 206 = .ok (.iload_n 3, 1) := by decide +kernel
theorem dL_isPupil_207 : decode cL_isPupil 207 = .ok (.if_icmp .eq 5, 3) := by decide +kernel
theorem dL_isPupil_210 : decode cL_isPupil 210 = .ok (.iconst 0, 1) := by decide +kernel
theorem dL_isPupil_211 : decode cL_isPupil 211 = .ok (.ireturn, 1) := by decide +kernel
theorem dL_isPupil_212 : decode cL_isPupil 212 = .ok (.iconst 0, 1) := by decide +kernel
theorem dL_isPupil_213 : decode cL_isPupil 213 = .ok (.istore 5, 2) := by decide +kernel
theorem dL_isPupil_215 : decode cL_isPupil 215 = .ok (.iconst 0, 1) := by decide +kernel
theorem dL_isPupil_216 : decode cL_isPupil 216 = .ok (.istore 6, 2) := by decide +kernel
theorem dL_isPupil_218 : decode cL_isPupil 218 = .ok (.iload 6, 2) := by decide +kernel
theorem dL_isPupil_220 : decode cL_isPupil 220 = .ok (.iconst 2, 1) := by decide +kernel
theorem dL_isPupil_221 : decode cL_isPupil 221 = .ok (.if_icmp .ge 250, 3) := by decide +kernel
theorem dL_isPupil_224 : decode cL_isPupil 224 = .ok (.aload_n 0, 1) := by decide +kernel
theorem dL_isPupil_225 : decode cL_isPupil 225 = .ok (.iload_n 1, 1) := by decide +kernel
theorem dL_isPupil_226 : decode cL_isPupil 226 = .ok (.bipush 9, 2) := by decide +kernel
theorem dL_isPupil_228 : decode cL_isPupil 228 = .ok (.iload 6, 2) := by decide +kernel
theorem dL_isPupil_230 : decode cL_isPupil 230 = .ok (.iadd, 1) := by decide +kernel
theorem dL_isPupil_231 : decode cL_isPupil 231 = .ok (.invokevirtual 59, 3) := by decide +kernel
theorem dL_isPupil_234 : decode cL_isPupil 234 = .ok (.istore 7, 2) := by decide +kernel
theorem dL_isPupil_236 : decode cL_isPupil 236 = .ok (.iconst 0, 1) := by decide +kernel
theorem dL_isPupil_237 : decode cL_isPupil 237 = .ok (.istore 8, 2) := by decide +kernel
theorem dL_isPupil_239 : decode cL_isPupil 239 = .ok (.iconst 0, 1) := by decide +kernel
theorem dL_isPupil_240 : decode cL_isPupil 240 = .ok (.istore 9, 2) := by decide +kernel
theorem dL_isPupil_242 : decode cL_isPupil 242 = .ok (.iload 9, 2) := by decide +kernel
theorem dL_isPupil_244 : decode cL_isPupil 244 = .ok (.aload_n 0, 1) := by decide +kernel
theorem dL_isPupil_245 : decode cL_isPupil 245 = .ok (.iconst 0, 1) := by decide +kernel
theorem dL_isPupil_246 : decode cL_isPupil 246 = .ok (.invokevirtual 68, 3) := by decide +kernel
theorem dL_isPupil_249 : decode cL_isPupil 249 = .ok (.if_icmp .ge 23, 3) := by decide +kernel
theorem dL_isPupil_252 : decode cL_isPupil 252 = .ok (.iload 8, 2) := by decide +kernel
theorem dL_isPupil_254 : decode cL_isPupil 254 = .ok (.aload_n 0, 1) := by decide +kernel
theorem dL_isPupil_255 : decode cL_isPupil 255 = .ok (.iload_n 1, 1) := by decide +kernel
theorem dL_isPupil_256 : decode cL_isPupil 256 = .ok (.iload 6, 2) := by decide +kernel
theorem dL_isPupil_258 : decode cL_isPupil 258 = .ok (.iload 9, 2) := by decide +kernel
theorem dL_isPupil_260 : decode cL_isPupil 260 = .ok (.invokevirtual 97, 3) := by decide +kernel
theorem dL_isPupil_263 : decode cL_isPupil 263 = .ok (.iadd, 1) := by decide +kernel
theorem dL_isPupil_264 : decode cL_isPupil 264 = .ok (.istore 8, 2) := by decide +kernel
theorem dL_isPupil_266 : decode cL_isPupil 266 = .ok (.iinc 9 1, 3) := by decide +kernel
theorem dL_isPupil_269 : decode cL_isPupil 269 = .ok (.goto (-27), 3) := by decide +kernel
theorem dL_isPupil_272 : decode cL_isPupil 272 = .ok (.iload 7, 2) := by decide +kernel
theorem dL_isPupil_274 : decode cL_isPupil 274 = .ok (.bipush 20, 2) := by decide +kernel
theorem dL_isPupil_276 : decode cL_isPupil 276 = .ok (.if_icmp .gt 40, 3) := by decide +kernel
theorem dL_isPupil_279 : decode cL_isPupil 279 = .ok (.iload 8, 2) := by decide +kernel
theorem dL_isPupil_281 : decode cL_isPupil 281 = .ok (.iload 7, 2) := by decide +kernel
theorem dL_isPupil_283 : decode cL_isPupil 283 = .ok (.if_icmp .ne 33, 3) := by decide +kernel
theorem dL_isPupil_286 : decode cL_isPupil 286 = .ok (.aload_n 0, 1) := by decide +kernel
theorem dL_isPupil_287 : decode cL_isPupil 287 = .ok (.iload_n 1, 1) := by decide +kernel
theorem dL_isPupil_288 : decode cL_isPupil 288 = .ok (.iload 6, 2) := by decide +kernel
theorem dL_isPupil_290 : decode cL_isPupil 290 = .ok (.iload 7, 2) := by decide +kernel
theorem dL_isPupil_292 : decode cL_isPupil 292 = .ok (.invokevirtual 80, 3) := by decide +kernel
theorem dL_isPupil_295 : decode cL_isPupil 295 = .ok (.iconst (-1), 1) := by decide +kernel
theorem dL_isPupil_296 : decode cL_isPupil 296 = .ok (.if_icmp .ne 20, 3) := by decide +kernel
theorem dL_isPupil_299 : decode cL_isPupil 299 = .ok (.iload 7, 2) := by decide +kernel
theorem dL_isPupil_301 : decode cL_isPupil 301 = .ok (.ifCond .le 17, 3) := by decide +kernel
theorem dL_isPupil_304 : decode cL_isPupil 304 = .ok (.aload_n 0, 1) := by decide +kernel
theorem dL_isPupil_305 : decode cL_isPupil 305 = .ok (.iload_n 1, 1) := by decide +kernel
theorem dL_isPupil_306 : decode cL_isPupil 306 = .ok (.iload 6, 2) := by decide +kernel
theorem dL_isPupil_308 : decode cL_isPupil 308 = .ok (.iconst 0, 1) := by decide +kernel
theorem dL_isPupil_309 : decode cL_isPupil 309 = .ok (.invokevirtual 80, 3) := by decide +kernel
theorem dL_isPupil_312 : decode cL_isPupil 312 = .ok (.iconst (-1), 1) := by decide +kernel
theorem dL_isPupil_313 : decode cL_isPupil 313 = .ok (.if_icmp .ne 5, 3) := by decide +kernel
theorem dL_isPupil_316 : decode cL_isPupil 316 = .ok (.iconst 0, 1) := by decide +kernel
theorem dL_isPupil_317 : decode cL_isPupil 317 = .ok (.ireturn, 1) := by decide +kernel
theorem dL_isPupil_318 : decode cL_isPupil 318 = .ok (.iconst 0, 1) := by decide +kernel
theorem dL_isPupil_319 : decode cL_isPupil 319 = .ok (.istore 9, 2) := by decide +kernel
theorem dL_isPupil_321 : decode cL_isPupil 321 = .ok (.iconst 0, 1) := by decide +kernel
theorem dL_isPupil_322 : decode cL_isPupil 322 = .ok (.istore 10, 2) := by decide +kernel
theorem dL_isPupil_324 : decode cL_isPupil 324 = .ok (.iload 10, 2) := by decide +kernel
theorem dL_isPupil_326 : decode cL_isPupil 326 = .ok (.aload_n 0, 1) := by decide +kernel
theorem dL_isPupil_327 : decode cL_isPupil 327 = .ok (.iconst 0, 1) := by decide +kernel
theorem dL_isPupil_328 : decode cL_isPupil 328 = .ok (.invokevirtual 68, 3) := by decide +kernel
theorem dL_isPupil_331 : decode cL_isPupil 331 = .ok (.if_icmp .ge 31, 3) := by decide +kernel
theorem dL_isPupil_334 : decode cL_isPupil 334 = .ok (.iload 9, 2) := by decide +kernel
theorem dL_isPupil_336 : decode cL_isPupil 336 = .ok (.aload_n 0, 1) := by decide +kernel
theorem dL_isPupil_337 : decode cL_isPupil 337 = .ok (.iload_n 1, 1) := by decide +kernel
theorem dL_isPupil_338 : decode cL_isPupil 338 = .ok (.iload 6, 2) := by decide +kernel
theorem dL_isPupil_340 : decode cL_isPupil 340 = .ok (.iload 10, 2) := by decide +kernel
theorem dL_isPupil_342 : decode cL_isPupil 342 = .ok (.invokevirtual 97, 3) := by decide +kernel
theorem dL_isPupil_345 : decode cL_isPupil 345 = .ok (.ifCond .le 7, 3) := by decide +kernel
theorem dL_isPupil_348 : decode cL_isPupil 348 = .ok (.iconst 1, 1) := by decide +kernel
theorem dL_isPupil_349 : decode cL_isPupil 349 = .ok (.goto 4, 3) := by decide +kernel
theorem dL_isPupil_352 : decode cL_isPupil 352 = .ok (.iconst 0, 1) := by decide +kernel
theorem dL_isPupil_353 : decode cL_isPupil 353 = .ok (.iadd, 1) := by decide +kernel
theorem dL_isPupil_354 : decode cL_isPupil 354 = .ok (.istore 9, 2) := by decide +kernel
theorem dL_isPupil_356 : decode cL_isPupil 356 = .ok (.iinc 10 1, 3) := by decide +kernel
theorem dL_isPupil_359 : decode cL_isPupil 359 = .ok (.goto (-35), 3) := by decide +kernel
theorem dL_isPupil_362 : decode cL_isPupil 362 = .ok (.aload_n 0, 1) := by decide +kernel
theorem dL_isPupil_363 : decode cL_isPupil 363 = .ok (.iload_n 1, 1) := by decide +kernel
theorem dL_isPupil_364 : decode cL_isPupil 364 = .ok (.iload 6, 2) := by decide +kernel
theorem dL_isPupil_366 : decode cL_isPupil 366 = .ok (.invokevirtual 100, 3) := by decide +kernel
theorem dL_isPupil_369 : decode cL_isPupil 369 = .ok (.iload 9, 2) := by decide +kernel
theorem dL_isPupil_371 : decode cL_isPupil 371 = .ok (.if_icmp .ne 48, 3) := by decide +kernel
theorem dL_isPupil_374 : decode cL_isPupil 374 = .ok (.aload_n 0, 1) := by decide +kernel
theorem dL_isPupil_375 : decode cL_isPupil 375 = .ok (.iload_n 1, 1) := by decide +kernel
theorem dL_isPupil_376 : decode cL_isPupil 376 = .ok (.iload 6, 2) := by decide +kernel
theorem dL_isPupil_378 : decode cL_isPupil 378 = .ok (.invokevirtual 103, 3) := by decide +kernel
theorem dL_isPupil_381 : decode cL_isPupil 381 = .ok (.iconst 0, 1) := by decide +kernel
theorem dL_isPupil_382 : decode cL_isPupil 382 = .ok (.aload_n 0, 1) := by decide +kernel
theorem dL_isPupil_383 : decode cL_isPupil 383 = .ok (.iconst 4, 1) := by decide +kernel
theorem dL_isPupil_384 : decode cL_isPupil 384 = .ok (.iload 6, 2) := by decide +kernel
theorem dL_isPupil_386 : decode cL_isPupil 386 = .ok (.iadd, 1) := by decide +kernel
theorem dL_isPupil_387 : decode cL_isPupil 387 = .ok (.invokevirtual 68, 3) := by decide +kernel
theorem dL_isPupil_390 : decode cL_isPupil 390 = .ok (.iload 7, 2) := by decide +kernel
theorem dL_isPupil_392 : decode cL_isPupil 392 = .ok (.isub, 1) := by decide +kernel
theorem dL_isPupil_393 : decode cL_isPupil 393 = .ok (.invokestatic 84, 3) := by decide +kernel
theorem dL_isPupil_396 : decode cL_isPupil 396 = .ok (.if_icmp .ne 23, 3) := by decide +kernel
theorem dL_isPupil_399 : decode cL_isPupil 399 = .ok (.aload_n 0, 1) := by decide +kernel
theorem dL_isPupil_400 : decode cL_isPupil 400 = .ok (.aload_n 0, 1) := by decide +kernel
theorem dL_isPupil_401 : decode cL_isPupil 401 = .ok (.iload 6, 2) := by decide +kernel
theorem dL_isPupil_403 : decode cL_isPupil 403 = .ok (.invokevirtual 106, 3) := by decide +kernel
theorem dL_isPupil_406 : decode cL_isPupil 406 = .ok (.bipush 9, 2) := by decide +kernel
theorem dL_isPupil_408 : decode cL_isPupil 408 = .ok (.iload 6, 2) := by decide +kernel
theorem dL_isPupil_410 : decode cL_isPupil 410 = .ok (.iadd, 1) := by decide +kernel
theorem dL_isPupil_411 : decode cL_isPupil 411 = .ok (.invokevirtual 59, 3) := by decide +kernel
theorem dL_isPupil_414 : decode cL_isPupil 414 = .ok (.iload 7, 2) := by decide +kernel
theorem dL_isPupil_416 : decode cL_isPupil 416 = .ok (.if_icmp .ge 5, 3) := by decide +kernel
theorem dL_isPupil_419 : decode cL_isPupil 419 = .ok (.iconst 0, 1) := by decide +kernel
theorem dL_isPupil_420 : decode cL_isPupil 420 = .ok (.ireturn, 1) := by decide +kernel
theorem dL_isPupil_421 : decode cL_isPupil 421 = .ok (.iload 5, 2) := by decide +kernel
theorem dL_isPupil_423 : decode cL_isPupil 423 = .ok (.aload_n 0, 1) := by decide +kernel
theorem dL_isPupil_424 : decode cL_isPupil 424 = .ok (.iload_n 1, 1) := by decide +kernel
theorem dL_isPupil_425 : decode cL_isPupil 425 = .ok (.iload 6, 2) := by decide +kernel
theorem dL_isPupil_427 : decode cL_isPupil 427 = .ok (.iload_n 1, 1) := by decide +kernel
theorem dL_isPupil_428 : decode cL_isPupil 428 = .ok (.invokevirtual 97, 3) := by decide +kernel
theorem dL_isPupil_431 : decode cL_isPupil 431 = .ok (.iadd, 1) := by decide +kernel
theorem dL_isPupil_432 : decode cL_isPupil 432 = .ok (.istore 5, 2) := by decide +kernel
theorem dL_isPupil_434 : decode cL_isPupil 434 = .ok (.aload_n 0, 1) := by decide +kernel
theorem dL_isPupil_435 : decode cL_isPupil 435 = .ok (.iload_n 1, 1) := by decide +kernel
theorem dL_isPupil_436 : decode cL_isPupil 436 = .ok (.iload 6, 2) := by decide +kernel
theorem dL_isPupil_438 : decode cL_isPupil 438 = .ok (.invokevirtual 109, 3) := by decide +kernel
theorem dL_isPupil_441 : decode cL_isPupil 441 = .ok (.aload_n 0, 1) := by decide +kernel
theorem dL_isPupil_442 : decode cL_isPupil 442 = .ok (.iload_n 1, 1) := by decide +kernel
theorem dL_isPupil_443 : decode cL_isPupil 443 = .ok (.iconst 5, 1) := by decide +kernel
theorem dL_isPupil_444 : decode cL_isPupil 444 = .ok (.invokevirtual 59, 3) := by decide +kernel
theorem dL_isPupil_447 : decode cL_isPupil 447 = .ok (.bipush 10, 2) := by decide +kernel
theorem dL_isPupil_449 : decode cL_isPupil 449 = .ok (.aload_n 0, 1) := by decide +kernel
theorem dL_isPupil_450 : decode cL_isPupil 450 = .ok (.iload_n 1, 1) := by decide +kernel
theorem dL_isPupil_451 : decode cL_isPupil 451 = .ok (.iconst 2, 1) := by decide +kernel
theorem dL_isPupil_452 : decode cL_isPupil 452 = .ok (.iload 6, 2) := by decide +kernel
theorem dL_isPupil_454 : decode cL_isPupil 454 = .ok (.iadd, 1) := by decide +kernel
theorem dL_isPupil_455 : decode cL_isPupil 455 = .ok (.invokevirtual 59, 3) := by decide +kernel
theorem dL_isPupil_458 : decode cL_isPupil 458 = .ok (.isub, 1) := by decide +kernel
theorem dL_isPupil_459 : decode cL_isPupil 459 = .ok (.idiv, 1) := by decide +kernel
theorem dL_isPupil_460 : decode cL_isPupil 460 = .ok (.if_icmp .eq 5, 3) := by decide +kernel
theorem dL_isPupil_463 : decode cL_isPupil 463 = .ok (.iconst 0, 1) := by decide +kernel
theorem dL_isPupil_464 : decode cL_isPupil 464 = .ok (.ireturn, 1) := by decide +kernel
theorem dL_isPupil_465 : decode cL_isPupil 465 = .ok (.iinc 6 1, 3) := by decide +kernel
theorem dL_isPupil_468 : decode cL_isPupil 468 = .ok (.goto (-250), 3) := by decide +kernel
theorem dL_isPupil_471 : decode cL_isPupil 471 = .ok (.iconst 0, 1) := by decide +kernel
theorem dL_isPupil_472 : decode cL_isPupil 472 = .ok (.istore 6, 2) := by decide +kernel
theorem dL_isPupil_474 : decode cL_isPupil 474 = .ok (.iconst 0, 1) := by decide +kernel
theorem dL_isPupil_475 : decode cL_isPupil 475 = .ok (.istore 7, 2) := by decide +kernel
theorem dL_isPupil_477 : decode cL_isPupil 477 = .ok (.iload 7, 2) := by decide +kernel
theorem dL_isPupil_479 : decode cL_isPupil 479 = .ok (.aload_n 0, 1) := by decide +kernel
theorem dL_isPupil_480 : decode cL_isPupil 480 = .ok (.bipush 8, 2) := by decide +kernel
theorem dL_isPupil_482 : decode cL_isPupil 482 = .ok (.invokevirtual 68, 3) := by decide +kernel
theorem dL_isPupil_485 : decode cL_isPupil 485 = .ok (.if_icmp .ge 40, 3) := by decide +kernel
theorem dL_isPupil_488 : decode cL_isPupil 488 = .ok (.aload_n 0, 1) := by decide +kernel
theorem dL_isPupil_489 : decode cL_isPupil 489 = .ok (.iload 7, 2) := by decide +kernel
theorem dL_isPupil_491 : decode cL_isPupil 491 = .ok (.iconst 0, 1) := by decide +kernel
theorem dL_isPupil_492 : decode cL_isPupil 492 = .ok (.invokevirtual 91, 3) := by decide +kernel
theorem dL_isPupil_495 : decode cL_isPupil 495 = .ok (.iload_n 1, 1) := by decide +kernel
theorem dL_isPupil_496 : decode cL_isPupil 496 = .ok (.if_icmp .eq 6, 3) := by decide +kernel
theorem dL_isPupil_499 : decode cL_isPupil 499 = .ok (.goto 20, 3) := by decide +kernel
theorem dL_isPupil_502 : decode cL_isPupil 502 = .ok (.aload_n 0, 1) := by decide +kernel
theorem dL_isPupil_503 : decode cL_isPupil 503 = .ok (.iload_n 1, 1) := by decide +kernel
theorem dL_isPupil_504 : decode cL_isPupil 504 = .ok (.iload 6, 2) := by decide +kernel
theorem dL_isPupil_506 : decode cL_isPupil 506 = .ok (.invokevirtual 112, 3) := by decide +kernel
theorem dL_isPupil_509 : decode cL_isPupil 509 = .ok (.iload 7, 2) := by decide +kernel
theorem dL_isPupil_511 : decode cL_isPupil 511 = .ok (.if_icmp .eq 5, 3) := by decide +kernel
theorem dL_isPupil_514 : decode cL_isPupil 514 = .ok (.iconst 0, 1) := by decide +kernel
theorem dL_isPupil_515 : decode cL_isPupil 515 = .ok (.ireturn, 1) := by decide +kernel
theorem dL_isPupil_516 : decode cL_isPupil 516 = .ok (.iinc 6 1, 3) := by decide +kernel
theorem dL_isPupil_519 : decode cL_isPupil 519 = .ok (.iinc 7 1, 3) := by decide +kernel
theorem dL_isPupil_522 : decode cL_isPupil 522 = .ok (.goto (-45), 3) := by decide +kernel
theorem dL_isPupil_525 : decode cL_isPupil 525 = .ok (.iconst 0, 1) := by decide +kernel
theorem dL_isPupil_526 : decode cL_isPupil 526 = .ok (.istore 7, 2) := by decide +kernel
theorem dL_isPupil_528 : decode cL_isPupil 528 = .ok (.iconst 0, 1) := by decide +kernel
theorem dL_isPupil_529 : decode cL_isPupil 529 = .ok (.istore 8, 2) := by decide +kernel
theorem dL_isPupil_531 : decode cL_isPupil 531 = .ok (.iload 8, 2) := by decide +kernel
theorem dL_isPupil_533 : decode cL_isPupil 533 = .ok (.aload_n 0, 1) := by decide +kernel
theorem dL_isPupil_534 : decode cL_isPupil 534 = .ok (.iconst 0, 1) := by decide +kernel
theorem dL_isPupil_535 : decode cL_isPupil 535 = .ok (.invokevirtual 68, 3) := by decide +kernel
theorem dL_isPupil_538 : decode cL_isPupil 538 = .ok (.if_icmp .ge 45, 3) := by decide +kernel
theorem dL_isPupil_541 : decode cL_isPupil 541 = .ok (.iload 8, 2) := by decide +kernel
theorem dL_isPupil_543 : decode cL_isPupil 543 = .ok (.iload_n 1, 1) := by decide +kernel
theorem dL_isPupil_544 : decode cL_isPupil 544 = .ok (.if_icmp .eq 33, 3) := by decide +kernel
theorem dL_isPupil_547 : decode cL_isPupil 547 = .ok (.aload_n 0, 1) := by decide +kernel
theorem dL_isPupil_548 : decode cL_isPupil 548 = .ok (.iload 8, 2) := by decide +kernel
theorem dL_isPupil_550 : decode cL_isPupil 550 = .ok (.iload_n 1, 1) := by decide +kernel
theorem dL_isPupil_551 : decode cL_isPupil 551 = .ok (.invokestatic 71, 3) := by decide +kernel
theorem dL_isPupil_554 : decode cL_isPupil 554 = .ok (.ifCond .ne 6, 3) := by decide +kernel
theorem dL_isPupil_557 : decode cL_isPupil 557 = .ok (.goto 20, 3) := by decide +kernel
theorem dL_isPupil_560 : decode cL_isPupil 560 = .ok (.aload_n 0, 1) := by decide +kernel
theorem dL_isPupil_561 : decode cL_isPupil 561 = .ok (.iload_n 1, 1) := by decide +kernel
theorem dL_isPupil_562 : decode cL_isPupil 562 = .ok (.iload 7, 2) := by decide +kernel
theorem dL_isPupil_564 : decode cL_isPupil 564 = .ok (.invokevirtual 115, 3) := by decide +kernel
theorem dL_isPupil_567 : decode cL_isPupil 567 = .ok (.iload 8, 2) := by decide +kernel
theorem dL_isPupil_569 : decode cL_isPupil 569 = .ok (.if_icmp .eq 5, 3) := by decide +kernel
theorem dL_isPupil_572 : decode cL_isPupil 572 = .ok (.iconst 0, 1) := by decide +kernel
theorem dL_isPupil_573 : decode cL_isPupil 573 = .ok (.ireturn, 1) := by decide +kernel
theorem dL_isPupil_574 : decode cL_isPupil 574 = .ok (.iinc 7 1, 3) := by decide +kernel
theorem dL_isPupil_577 : decode cL_isPupil 577 = .ok (.iinc 8 1, 3) := by decide +kernel
theorem dL_isPupil_580 : decode cL_isPupil 580 = .ok (.goto (-49), 3) := by decide +kernel
theorem dL_isPupil_583 : decode cL_isPupil 583 = .ok (.aload_n 0, 1) := by decide +kernel
theorem dL_isPupil_584 : decode cL_isPupil 584 = .ok (.iload_n 1, 1) := by decide +kernel
theorem dL_isPupil_585 : decode cL_isPupil 585 = .ok (.iload 6, 2) := by decide +kernel
theorem dL_isPupil_587 : decode cL_isPupil 587 = .ok (.invokevirtual 112, 3) := by decide +kernel
theorem dL_isPupil_590 : decode cL_isPupil 590 = .ok (.iconst (-1), 1) := by decide +kernel
theorem dL_isPupil_591 : decode cL_isPupil 591 = .ok (.if_icmp .ne 14, 3) := by decide +kernel
theorem dL_isPupil_594 : decode cL_isPupil 594 = .ok (.aload_n 0, 1) := by decide +kernel
theorem dL_isPupil_595 : decode cL_isPupil 595 = .ok (.iload_n 1, 1) := by decide +kernel
theorem dL_isPupil_596 : decode cL_isPupil 596 = .ok (.iload 7, 2) := by decide +kernel
theorem dL_isPupil_598 : decode cL_isPupil 598 = .ok (.invokevirtual 115, 3) := by decide +kernel
theorem dL_isPupil_601 : decode cL_isPupil 601 = .ok (.iconst (-1), 1) := by decide +kernel
theorem dL_isPupil_602 : decode cL_isPupil 602 = .ok (.if_icmp .eq 5, 3) := by decide +kernel
theorem dL_isPupil_605 : decode cL_isPupil 605 = .ok (.iconst 0, 1) := by decide +kernel
theorem dL_isPupil_606 : decode cL_isPupil 606 = .ok (.ireturn, 1) := by decide +kernel
theorem dL_isPupil_607 : decode cL_isPupil 607 = .ok (.aload_n 0, 1) := by decide +kernel
theorem dL_isPupil_608 : decode cL_isPupil 608 = .ok (.iload_n 1, 1) := by decide +kernel
theorem dL_isPupil_609 : decode cL_isPupil 609 = .ok (.bipush 9, 2) := by decide +kernel
theorem dL_isPupil_611 : decode cL_isPupil 611 = .ok (.invokevirtual 59, 3) := by decide +kernel
theorem dL_isPupil_614 : decode cL_isPupil 614 = .ok (.aload_n 0, 1) := by decide +kernel
theorem dL_isPupil_615 : decode cL_isPupil 615 = .ok (.iload_n 1, 1) := by decide +kernel
theorem dL_isPupil_616 : decode cL_isPupil 616 = .ok (.bipush 10, 2) := by decide +kernel
theorem dL_isPupil_618 : decode cL_isPupil 618 = .ok (.invokevirtual 59, 3) := by decide +kernel
theorem dL_isPupil_621 : decode cL_isPupil 621 = .ok (.iadd, 1) := by decide +kernel
theorem dL_isPupil_622 : decode cL_isPupil 622 = .ok (.istore 8, 2) := by decide +kernel
theorem dL_isPupil_624 : decode cL_isPupil 624 = .ok (.aload_n 0, 1) := by decide +kernel
theorem dL_isPupil_625 : decode cL_isPupil 625 = .ok (.iload_n 1, 1) := by decide +kernel
theorem dL_isPupil_626 : decode cL_isPupil 626 = .ok (.invokevirtual 118, 3) := by decide +kernel
theorem dL_isPupil_629 : decode cL_isPupil 629 = .ok (.iload 8, 2) := by decide +kernel
theorem dL_isPupil_631 : decode cL_isPupil 631 = .ok (.ifCond .ne 7, 3) := by decide +kernel
theorem dL_isPupil_634 : decode cL_isPupil 634 = .ok (.fconst 0, 1) := by decide +kernel
theorem dL_isPupil_635 : decode cL_isPupil 635 = .ok (.goto 10, 3) := by decide +kernel
theorem dL_isPupil_638 : decode cL_isPupil 638 = .ok (.iload 5, 2) := by decide +kernel
theorem dL_isPupil_640 : decode cL_isPupil 640 = .ok (.i2f, 1) := by decide +kernel
theorem dL_isPupil_641 : decode cL_isPupil 641 = .ok (.iload 8, 2) := by decide +kernel
theorem dL_isPupil_643 : decode cL_isPupil 643 = .ok (.i2f, 1) := by decide +kernel
theorem dL_isPupil_644 : decode cL_isPupil 644 = .ok (.fdiv, 1) := by decide +kernel
theorem dL_isPupil_645 : decode cL_isPupil 645 = .ok (.fcmp .l, 1) := by decide +kernel
theorem dL_isPupil_646 : decode cL_isPupil 646 = .ok (.ifCond .eq 5, 3) := by decide +kernel
theorem dL_isPupil_649 : decode cL_isPupil 649 = .ok (.iconst 0, 1) := by decide +kernel
theorem dL_isPupil_650 : decode cL_isPupil 650 = .ok (.ireturn, 1) := by decide +kernel
theorem dL_isPupil_651 : decode cL_isPupil 651 = .ok (.aload_n 0, 1) := by decide +kernel
theorem dL_isPupil_652 : decode cL_isPupil 652 = .ok (.iload_n 1, 1) := by decide +kernel
theorem dL_isPupil_653 : decode cL_isPupil 653 = .ok (.bipush 6, 2) := by decide +kernel
theorem dL_isPupil_655 : decode cL_isPupil 655 = .ok (.invokevirtual 59, 3) := by decide +kernel
theorem dL_isPupil_658 : decode cL_isPupil 658 = .ok (.aload_n 0, 1) := by decide +kernel
theorem dL_isPupil_659 : decode cL_isPupil 659 = .ok (.iload_n 1, 1) := by decide +kernel
theorem dL_isPupil_660 : decode cL_isPupil 660 = .ok (.invokestatic 87, 3) := by decide +kernel
theorem dL_isPupil_663 : decode cL_isPupil 663 = .ok (.iadd, 1) := by decide +kernel
theorem dL_isPupil_664 : decode cL_isPupil 664 = .ok (.istore 9, 2) := by decide +kernel
theorem dL_isPupil_666 : decode cL_isPupil 666 = .ok (.aload_n 0, 1) := by decide +kernel
theorem dL_isPupil_667 : decode cL_isPupil 667 = .ok (.iload_n 1, 1) := by decide +kernel
theorem dL_isPupil_668 : decode cL_isPupil 668 = .ok (.bipush 8, 2) := by decide +kernel
theorem dL_isPupil_670 : decode cL_isPupil 670 = .ok (.invokevirtual 59, 3) := by decide +kernel
theorem dL_isPupil_673 : decode cL_isPupil 673 = .ok (.ifCond .le 7, 3) := by decide +kernel
theorem dL_isPupil_676 : decode cL_isPupil 676 = .ok (.iconst 1, 1) := by decide +kernel
theorem dL_isPupil_677 : decode cL_isPupil 677 = .ok (.goto 40, 3) := by decide +kernel
theorem dL_isPupil_680 : decode cL_isPupil 680 = .ok (.iload 9, 2) := by decide +kernel
theorem dL_isPupil_682 : decode cL_isPupil 682 = .ok (.aload_n 0, 1) := by decide +kernel
theorem dL_isPupil_683 : decode cL_isPupil 683 = .ok (.iconst 3, 1) := by decide +kernel
theorem dL_isPupil_684 : decode cL_isPupil 684 = .ok (.invokevirtual 68, 3) := by decide +kernel
theorem dL_isPupil_687 : decode cL_isPupil 687 = .ok (.if_icmp .lt 7, 3) := by decide +kernel
theorem dL_isPupil_690 : decode cL_isPupil 690 = .ok (.iconst 2, 1) := by decide +kernel
theorem dL_isPupil_691 : decode cL_isPupil 691 = .ok (.goto 26, 3) := by decide +kernel
theorem dL_isPupil_694 : decode cL_isPupil 694 = .ok (.aload_n 0, 1) := by decide +kernel
theorem dL_isPupil_695 : decode cL_isPupil 695 = .ok (.iload_n 1, 1) := by decide +kernel
theorem dL_isPupil_696 : decode cL_isPupil 696 = .ok (.invokestatic 122, 3) := by decide +kernel
theorem dL_isPupil_699 : decode cL_isPupil 699 = .ok (.ifCond .le 7, 3) := by decide +kernel
theorem dL_isPupil_702 : decode cL_isPupil 702 = .ok (.iconst 3, 1) := by decide +kernel
theorem dL_isPupil_703 : decode cL_isPupil 703 = .ok (.goto 14, 3) := by decide +kernel
theorem dL_isPupil_706 : decode cL_isPupil 706 = .ok (.iload 4, 2) := by decide +kernel
theorem dL_isPupil_708 : decode cL_isPupil 708 = .ok (.iconst (-1), 1) := by decide +kernel
theorem dL_isPupil_709 : decode cL_isPupil 709 = .ok (.if_icmp .eq 7, 3) := by decide +kernel
theorem dL_isPupil_712 : decode cL_isPupil 712 = .ok (.iconst 4, 1) := by decide +kernel
theorem dL_isPupil_713 : decode cL_isPupil 713 = .ok (.goto 4, 3) := by decide +kernel
theorem dL_isPupil_716 : decode cL_isPupil 716 = .ok (.iconst 5, 1) := by decide +kernel
theorem dL_isPupil_717 : decode cL_isPupil 717 = .ok (.istore 10, 2) := by decide +kernel
theorem dL_isPupil_719 : decode cL_isPupil 719 = .ok (.iload 10, 2) := by decide +kernel
theorem dL_isPupil_721 : decode cL_isPupil 721 = .ok (.iconst 1, 1) := by decide +kernel
theorem dL_isPupil_722 : decode cL_isPupil 722 = .ok (.if_icmp .ne 16, 3) := by decide +kernel
theorem dL_isPupil_725 : decode cL_isPupil 725 = .ok (.bipush 100, 2) := by decide +kernel
theorem dL_isPupil_727 : decode cL_isPupil 727 = .ok (.aload_n 0, 1) := by decide +kernel
theorem dL_isPupil_728 : decode cL_isPupil 728 = .ok (.iload_n 1, 1) := by decide +kernel
theorem dL_isPupil_729 : decode cL_isPupil 729 = .ok (.bipush 8, 2) := by decide +kernel
theorem dL_isPupil_731 : decode cL_isPupil 731 = .ok (.invokevirtual 59, 3) := by decide +kernel
theorem dL_isPupil_734 : decode cL_isPupil 734 = .ok (.iadd, 1) := by decide +kernel
theorem dL_isPupil_735 : decode cL_isPupil 735 = .ok (.goto 61, 3) := by decide +kernel
theorem dL_isPupil_738 : decode cL_isPupil 738 = .ok (.iload 10, 2) := by decide +kernel
theorem dL_isPupil_740 : decode cL_isPupil 740 = .ok (.iconst 2, 1) := by decide +kernel
theorem dL_isPupil_741 : decode cL_isPupil 741 = .ok (.if_icmp .ne 12, 3) := by decide +kernel
theorem dL_isPupil_744 : decode cL_isPupil 744 = .ok (.sipush 200, 3) := by decide +kernel
theorem dL_isPupil_747 : decode cL_isPupil 747 = .ok (.iload 9, 2) := by decide +kernel
theorem dL_isPupil_749 : decode cL_isPupil 749 = .ok (.iadd, 1) := by decide +kernel
theorem dL_isPupil_750 : decode cL_isPupil 750 = .ok (.goto 46, 3) := by decide +kernel
theorem dL_isPupil_753 : decode cL_isPupil 753 = .ok (.iload 10, 2) := by decide +kernel
theorem dL_isPupil_755 : decode cL_isPupil 755 = .ok (.iconst 3, 1) := by decide +kernel
theorem dL_isPupil_756 : decode cL_isPupil 756 = .ok (.if_icmp .ne 15, 3) := by decide +kernel
theorem dL_isPupil_759 : decode cL_isPupil 759 = .ok (.sipush 300, 3) := by decide +kernel
theorem dL_isPupil_762 : decode cL_isPupil 762 = .ok (.aload_n 0, 1) := by decide +kernel
theorem dL_isPupil_763 : decode cL_isPupil 763 = .ok (.iload_n 1, 1) := by decide +kernel
theorem dL_isPupil_764 : decode cL_isPupil 764 = .ok (.invokestatic 122, 3) := by decide +kernel
theorem dL_isPupil_767 : decode cL_isPupil 767 = .ok (.iadd, 1) := by decide +kernel
theorem dL_isPupil_768 : decode cL_isPupil 768 = .ok (.goto 28, 3) := by decide +kernel
theorem dL_isPupil_771 : decode cL_isPupil 771 = .ok (.iload 10, 2) := by decide +kernel
theorem dL_isPupil_773 : decode cL_isPupil 773 = .ok (.iconst 4, 1) := by decide +kernel
theorem dL_isPupil_774 : decode cL_isPupil 774 = .ok (.if_icmp .ne 12, 3) := by decide +kernel
theorem dL_isPupil_777 : decode cL_isPupil 777 = .ok (.sipush 400, 3) := by decide +kernel
theorem dL_isPupil_780 : decode cL_isPupil 780 = .ok (.iload 4, 2) := by decide +kernel
theorem dL_isPupil_782 : decode cL_isPupil 782 = .ok (.iadd, 1) := by decide +kernel
theorem dL_isPupil_783 : decode cL_isPupil 783 = .ok (.goto 13, 3) := by decide +kernel
theorem dL_isPupil_786 : decode cL_isPupil 786 = .ok (.sipush 500, 3) := by decide +kernel
theorem dL_isPupil_789 : decode cL_isPupil 789 = .ok (.aload_n 0, 1) := by decide +kernel
theorem dL_isPupil_790 : decode cL_isPupil 790 = .ok (.iload_n 1, 1) := by decide +kernel
theorem dL_isPupil_791 : decode cL_isPupil 791 = .ok (.iconst 5, 1) := by decide +kernel
theorem dL_isPupil_792 : decode cL_isPupil 792 = .ok (.invokevirtual 59, 3) := by decide +kernel
theorem dL_isPupil_795 : decode cL_isPupil 795 = .ok (.iadd, 1) := by decide +kernel
theorem dL_isPupil_796 : decode cL_isPupil 796 = .ok (.istore 11, 2) := by decide +kernel
theorem dL_isPupil_798 : decode cL_isPupil 798 = .ok (.aload_n 0, 1) := by decide +kernel
theorem dL_isPupil_799 : decode cL_isPupil 799 = .ok (.iload_n 1, 1) := by decide +kernel
theorem dL_isPupil_800 : decode cL_isPupil 800 = .ok (.iconst 0, 1) := by decide +kernel
theorem dL_isPupil_801 : decode cL_isPupil 801 = .ok (.invokevirtual 125, 3) := by decide +kernel
theorem dL_isPupil_804 : decode cL_isPupil 804 = .ok (.iload 10, 2) := by decide +kernel
theorem dL_isPupil_806 : decode cL_isPupil 806 = .ok (.if_icmp .ne 80, 3) := by decide +kernel
theorem dL_isPupil_809 : decode cL_isPupil 809 = .ok (.aload_n 0, 1) := by decide +kernel
theorem dL_isPupil_810 : decode cL_isPupil 810 = .ok (.iload_n 1, 1) := by decide +kernel
theorem dL_isPupil_811 : decode cL_isPupil 811 = .ok (.iconst 1, 1) := by decide +kernel
theorem dL_isPupil_812 : decode cL_isPupil 812 = .ok (.invokevirtual 125, 3) := by decide +kernel
theorem dL_isPupil_815 : decode cL_isPupil 815 = .ok (.iload 11, 2) := by decide +kernel
theorem dL_isPupil_817 : decode cL_isPupil 817 = .ok (.if_icmp .ne 69, 3) := by decide +kernel
theorem dL_isPupil_820 : decode cL_isPupil 820 = .ok (.aload_n 0, 1) := by decide +kernel
theorem dL_isPupil_821 : decode cL_isPupil 821 = .ok (.iload_n 1, 1) := by decide +kernel
theorem dL_isPupil_822 : decode cL_isPupil 822 = .ok (.iconst 0, 1) := by decide +kernel
theorem dL_isPupil_823 : decode cL_isPupil 823 = .ok (.invokevirtual 128, 3) := by decide +kernel
theorem dL_isPupil_826 : decode cL_isPupil 826 = .ok (.aload_n 0, 1) := by decide +kernel
theorem dL_isPupil_827 : decode cL_isPupil 827 = .ok (.iload_n 1, 1) := by decide +kernel
theorem dL_isPupil_828 : decode cL_isPupil 828 = .ok (.invokestatic 122, 3) := by decide +kernel
theorem dL_isPupil_831 : decode cL_isPupil 831 = .ok (.if_icmp .ne 55, 3) := by decide +kernel
theorem dL_isPupil_834 : decode cL_isPupil 834 = .ok (.aload_n 0, 1) := by decide +kernel
theorem dL_isPupil_835 : decode cL_isPupil 835 = .ok (.iload_n 1, 1) := by decide +kernel
theorem dL_isPupil_836 : decode cL_isPupil 836 = .ok (.iconst 1, 1) := by decide +kernel
theorem dL_isPupil_837 : decode cL_isPupil 837 = .ok (.invokevirtual 128, 3) := by decide +kernel
theorem dL_isPupil_840 : decode cL_isPupil 840 = .ok (.aload_n 0, 1) := by decide +kernel
theorem dL_isPupil_841 : decode cL_isPupil 841 = .ok (.iload_n 1, 1) := by decide +kernel
theorem dL_isPupil_842 : decode cL_isPupil 842 = .ok (.invokestatic 87, 3) := by decide +kernel
theorem dL_isPupil_845 : decode cL_isPupil 845 = .ok (.if_icmp .ne 41, 3) := by decide +kernel
theorem dL_isPupil_848 : decode cL_isPupil 848 = .ok (.aload_n 0, 1) := by decide +kernel
theorem dL_isPupil_849 : decode cL_isPupil 849 = .ok (.iload_n 1, 1) := by decide +kernel
theorem dL_isPupil_850 : decode cL_isPupil 850 = .ok (.iconst 2, 1) := by decide +kernel
theorem dL_isPupil_851 : decode cL_isPupil 851 = .ok (.invokevirtual 128, 3) := by decide +kernel
theorem dL_isPupil_854 : decode cL_isPupil 854 = .ok (.aload_n 0, 1) := by decide +kernel
theorem dL_isPupil_855 : decode cL_isPupil 855 = .ok (.iload_n 1, 1) := by decide +kernel
theorem dL_isPupil_856 : decode cL_isPupil 856 = .ok (.invokestatic 131, 3) := by decide +kernel
theorem dL_isPupil_859 : decode cL_isPupil 859 = .ok (.if_icmp .ne 27, 3) := by decide +kernel
theorem dL_isPupil_862 : decode cL_isPupil 862 = .ok (.aload_n 0, 1) := by decide +kernel
theorem dL_isPupil_863 : decode cL_isPupil 863 = .ok (.aload_n 0, 1) := by decide +kernel
theorem dL_isPupil_864 : decode cL_isPupil 864 = .ok (.iload_n 1, 1) := by decide +kernel
theorem dL_isPupil_865 : decode cL_isPupil 865 = .ok (.iconst 0, 1) := by decide +kernel
theorem dL_isPupil_866 : decode cL_isPupil 866 = .ok (.invokevirtual 59, 3) := by decide +kernel
theorem dL_isPupil_869 : decode cL_isPupil 869 = .ok (.aload_n 0, 1) := by decide +kernel
theorem dL_isPupil_870 : decode cL_isPupil 870 = .ok (.iload_n 1, 1) := by decide +kernel
theorem dL_isPupil_871 : decode cL_isPupil 871 = .ok (.iconst 1, 1) := by decide +kernel
theorem dL_isPupil_872 : decode cL_isPupil 872 = .ok (.invokevirtual 59, 3) := by decide +kernel
theorem dL_isPupil_875 : decode cL_isPupil 875 = .ok (.invokevirtual 134, 3) := by decide +kernel
theorem dL_isPupil_878 : decode cL_isPupil 878 = .ok (.iload_n 1, 1) := by decide +kernel
theorem dL_isPupil_879 : decode cL_isPupil 879 = .ok (.if_icmp .ne 7, 3) := by decide +kernel
theorem dL_isPupil_882 : decode cL_isPupil 882 = .ok (.iconst 1, 1) := by decide +kernel
theorem dL_isPupil_883 : decode cL_isPupil 883 = .ok (.goto 4, 3) := by decide +kernel
theorem dL_isPupil_886 : decode cL_isPupil 886 = .ok (.iconst 0, 1) := by decide +kernel
theorem dL_isPupil_887 : decode cL_isPupil 887 = .ok (.ireturn, 1) := by decide +kernel
theorem dL_isWhole_0 : decode cL_isWhole 0 = .ok (.aload_n 0, 1) := by decide +kernel
theorem dL_isWhole_1 : decode cL_isWhole 1 = .ok (.iconst 1, 1) := by decide +kernel
theorem dL_isWhole_2 : decode cL_isWhole 2 = .ok (.invokevirtual 68, 3) := by decide +kernel
theorem dL_isWhole_5 : decode cL_isWhole 5 = .ok (.aload_n 0, 1) := by decide +kernel
theorem dL_isWhole_6 : decode cL_isWhole 6 = .ok (.iconst 0, 1) := by decide +kernel
theorem dL_isWhole_7 : decode cL_isWhole 7 = .ok (.invokevirtual 137, 3) := by decide +kernel
theorem dL_isWhole_10 : decode cL_isWhole 10 = .ok (.iadd, 1) := by decide +kernel
theorem dL_isWhole_11 : decode cL_isWhole 11 = .ok (.aload_n 0, 1) := by decide +kernel
theorem dL_isWhole_12 : decode cL_isWhole 12 = .ok (.iconst 2, 1) := by decide +kernel
theorem dL_isWhole_13 : decode cL_isWhole 13 = .ok (.invokevirtual 137, 3) := by decide +kernel
theorem dL_isWhole_16 : decode cL_isWhole 16 = .ok (.iadd, 1) := by decide +kernel
theorem dL_isWhole_17 : decode cL_isWhole 17 = .ok (.iconst 3, 1) := by decide +kernel
theorem dL_isWhole_18 : decode cL_isWhole 18 = .ok (.aload_n 0, 1) := by decide +kernel
theorem dL_isWhole_19 : decode cL_isWhole 19 = .ok (.bipush 7, 2) := by decide +kernel
theorem dL_isWhole_21 : decode cL_isWhole 21 = .ok (.invokevirtual 137, 3) := by decide +kernel
theorem dL_isWhole_24 : decode cL_isWhole 24 = .ok (.imul, 1) := by decide +kernel
theorem dL_isWhole_25 : decode cL_isWhole 25 = .ok (.iadd, 1) := by decide +kernel
theorem dL_isWhole_26 : decode cL_isWhole 26 = .ok (.istore_n 1, 1) := by decide +kernel
theorem dL_isWhole_27 : decode cL_isWhole 27 = .ok (.iload_n 1, 1) := by decide +kernel
theorem dL_isWhole_28 : decode cL_isWhole 28 = .ok (.aload_n 0, 1) := by decide +kernel
theorem dL_isWhole_29 : decode cL_isWhole 29 = .ok (.iconst 0, 1) := by decide +kernel
theorem dL_isWhole_30 : decode cL_isWhole 30 = .ok (.invokevirtual 68, 3) := by decide +kernel
theorem dL_isWhole_33 : decode cL_isWhole 33 = .ok (.irem, 1) := by decide +kernel
theorem dL_isWhole_34 : decode cL_isWhole 34 = .ok (.istore_n 2, 1) := by decide +kernel
theorem dL_isWhole_35 : decode cL_isWhole 35 = .ok (.aload_n 0, 1) := by decide +kernel
theorem dL_isWhole_36 : decode cL_isWhole 36 = .ok (.invokevirtual 140, 3) := by decide +kernel
theorem dL_isWhole_39 : decode cL_isWhole 39 = .ok (.ifCond .ne 11, 3) := by decide +kernel
theorem dL_isWhole_42 : decode cL_isWhole 42 = .ok (.aload_n 0, 1) := by decide +kernel
theorem dL_isWhole_43 : decode cL_isWhole 43 = .ok (.iload_n 2, 1) := by decide +kernel
theorem dL_isWhole_44 : decode cL_isWhole 44 = .ok (.invokestatic 143, 3) := by decide +kernel
theorem dL_isWhole_47 : decode cL_isWhole 47 = .ok (.ifCond .ne 5, 3) := by decide +kernel
theorem dL_isWhole_50 : decode cL_isWhole 50 = .ok (.iconst 0, 1) := by decide +kernel
theorem dL_isWhole_51 : decode cL_isWhole 51 = .ok (.ireturn, 1) := by decide +kernel
theorem dL_isWhole_52 : decode cL_isWhole 52 = .ok (.iload_n 2, 1) := by decide +kernel
theorem dL_isWhole_53 : decode cL_isWhole 53 = .ok (.iconst 1, 1) := by decide +kernel
theorem dL_isWhole_54 : decode cL_isWhole 54 = .ok (.iadd, 1) := by decide +kernel
theorem dL_isWhole_55 : decode cL_isWhole 55 = .ok (.aload_n 0, 1) := by decide +kernel
theorem dL_isWhole_56 : decode cL_isWhole 56 = .ok (.iconst 0, 1) := by decide +kernel
theorem dL_isWhole_57 : decode cL_isWhole 57 = .ok (.invokevirtual 68, 3) := by decide +kernel
theorem dL_isWhole_60 : decode cL_isWhole 60 = .ok (.irem, 1) := by decide +kernel
theorem dL_isWhole_61 : decode cL_isWhole 61 = .ok (.istore_n 3, 1) := by decide +kernel
theorem dL_isWhole_62 : decode cL_isWhole 62 = .ok (.aload_n 0, 1) := by decide +kernel
theorem dL_isWhole_63 : decode cL_isWhole 63 = .ok (.iload_n 2, 1) := by decide +kernel
theorem dL_isWhole_64 : decode cL_isWhole 64 = .ok (.iload_n 3, 1) := by decide +kernel
theorem dL_isWhole_65 : decode cL_isWhole 65 = .ok (.invokevirtual 147, 3) := by decide +kernel
theorem dL_isWhole_68 : decode cL_isWhole 68 = .ok (.aload_n 0, 1) := by decide +kernel
theorem dL_isWhole_69 : decode cL_isWhole 69 = .ok (.iload_n 2, 1) := by decide +kernel
theorem dL_isWhole_70 : decode cL_isWhole 70 = .ok (.iload_n 3, 1) := by decide +kernel
theorem dL_isWhole_71 : decode cL_isWhole 71 = .ok (.invokestatic 150, 3) := by decide +kernel
theorem dL_isWhole_74 : decode cL_isWhole 74 = .ok (.if_icmp .ne 18, 3) := by decide +kernel
theorem dL_isWhole_77 : decode cL_isWhole 77 = .ok (.aload_n 0, 1) := by decide +kernel
theorem dL_isWhole_78 : decode cL_isWhole 78 = .ok (.iload_n 2, 1) := by decide +kernel
theorem dL_isWhole_79 : decode cL_isWhole 79 = .ok (.iload_n 3, 1) := by decide +kernel
theorem dL_isWhole_80 : decode cL_isWhole 80 = .ok (.invokevirtual 153, 3) := by decide +kernel
theorem dL_isWhole_83 : decode cL_isWhole 83 = .ok (.aload_n 0, 1) := by decide +kernel
theorem dL_isWhole_84 : decode cL_isWhole 84 = .ok (.iload_n 2, 1) := by decide +kernel
theorem dL_isWhole_85 : decode cL_isWhole 85 = .ok (.iload_n 3, 1) := by decide +kernel
theorem dL_isWhole_86 : decode cL_isWhole 86 = .ok (.invokestatic 71, 3) := by decide +kernel
theorem dL_isWhole_89 : decode cL_isWhole 89 = .ok (.if_icmp .eq 5, 3) := by decide +kernel
theorem dL_isWhole_92 : decode cL_isWhole 92 = .ok (.iconst 0, 1) := by decide +kernel
theorem dL_isWhole_93 : decode cL_isWhole 93 = .ok (.ireturn, 1) := by decide +kernel
theorem dL_isWhole_94 : decode cL_isWhole 94 = .ok (.iconst 0, 1) := by decide +kernel
theorem dL_isWhole_95 : decode cL_isWhole 95 = .ok (.istore 4, 2) := by decide +kernel
theorem dL_isWhole_97 : decode cL_isWhole 97 = .ok (.aload_n 0, 1) := by decide +kernel
theorem dL_isWhole_98 : decode cL_isWhole 98 = .ok (.iload_n 2, 1) := by decide +kernel
theorem dL_isWhole_99 : decode cL_isWhole 99 = .ok (.iload 4, 2) := by decide +kernel
theorem dL_isWhole_101 : decode cL_isWhole 101 = .ok (.invokevirtual 157, 3) := by decide +kernel
theorem dL_isWhole_104 : decode cL_isWhole 104 = .ok (.iconst (-1), 1) := by decide +kernel
theorem dL_isWhole_105 : decode cL_isWhole 105 = .ok (.if_icmp .eq 9, 3) := by decide +kernel
theorem dL_isWhole_108 : decode cL_isWhole 108 = .ok (.iinc 4 1, 3) := by decide +kernel
theorem dL_isWhole_111 : decode cL_isWhole 111 = .ok (.goto (-14), 3) := by decide +kernel
theorem dL_isWhole_114 : decode cL_isWhole 114 = .ok (.iload 4, 2) := by decide +kernel
theorem dL_isWhole_116 : decode cL_isWhole 116 = .ok (.aload_n 0, 1) := by decide +kernel
theorem dL_isWhole_117 : decode cL_isWhole 117 = .ok (.iload_n 2, 1) := by decide +kernel
theorem dL_isWhole_118 : decode cL_isWhole 118 = .ok (.bipush 13, 2) := by decide +kernel
theorem dL_isWhole_120 : decode cL_isWhole 120 = .ok (.invokevirtual 59, 3) := by decide +kernel
theorem dL_isWhole_123 : decode cL_isWhole 123 = .ok (.if_icmp .ne 62, 3) := by decide +kernel
theorem dL_isWhole_126 : decode cL_isWhole 126 = .ok (.aload_n 0, 1) := by decide +kernel
theorem dL_isWhole_127 : decode cL_isWhole 127 = .ok (.aload_n 0, 1) := by decide +kernel
theorem dL_isWhole_128 : decode cL_isWhole 128 = .ok (.iconst 0, 1) := by decide +kernel
theorem dL_isWhole_129 : decode cL_isWhole 129 = .ok (.invokevirtual 160, 3) := by decide +kernel
theorem dL_isWhole_132 : decode cL_isWhole 132 = .ok (.bipush 7, 2) := by decide +kernel
theorem dL_isWhole_134 : decode cL_isWhole 134 = .ok (.invokevirtual 59, 3) := by decide +kernel
theorem dL_isWhole_137 : decode cL_isWhole 137 = .ok (.aload_n 0, 1) := by decide +kernel
theorem dL_isWhole_138 : decode cL_isWhole 138 = .ok (.iload_n 2, 1) := by decide +kernel
theorem dL_isWhole_139 : decode cL_isWhole 139 = .ok (.bipush 7, 2) := by decide +kernel
theorem dL_isWhole_141 : decode cL_isWhole 141 = .ok (.invokevirtual 59, 3) := by decide +kernel
theorem dL_isWhole_144 : decode cL_isWhole 144 = .ok (.if_icmp .lt 41, 3) := by decide +kernel
theorem dL_isWhole_147 : decode cL_isWhole 147 = .ok (.aload_n 0, 1) := by decide +kernel
theorem dL_isWhole_148 : decode cL_isWhole 148 = .ok (.aload_n 0, 1) := by decide +kernel
theorem dL_isWhole_149 : decode cL_isWhole 149 = .ok (.iconst 0, 1) := by decide +kernel
theorem dL_isWhole_150 : decode cL_isWhole 150 = .ok (.iconst 0, 1) := by decide +kernel
theorem dL_isWhole_151 : decode cL_isWhole 151 = .ok (.invokevirtual 163, 3) := by decide +kernel
theorem dL_isWhole_154 : decode cL_isWhole 154 = .ok (.iconst 2, 1) := by decide +kernel
theorem dL_isWhole_155 : decode cL_isWhole 155 = .ok (.invokevirtual 59, 3) := by decide +kernel
theorem dL_isWhole_158 : decode cL_isWhole 158 = .ok (.aload_n 0, 1) := by decide +kernel
theorem dL_isWhole_159 : decode cL_isWhole 159 = .ok (.iload_n 2, 1) := by decide +kernel
theorem dL_isWhole_160 : decode cL_isWhole 160 = .ok (.iconst 2, 1) := by decide +kernel
theorem dL_isWhole_161 : decode cL_isWhole 161 = .ok (.invokevirtual 59, 3) := by decide +kernel
theorem dL_isWhole_164 : decode cL_isWhole 164 = .ok (.if_icmp .lt 21, 3) := by decide +kernel
theorem dL_isWhole_167 : decode cL_isWhole 167 = .ok (.aload_n 0, 1) := by decide +kernel
theorem dL_isWhole_168 : decode cL_isWhole 168 = .ok (.iconst 1, 1) := by decide +kernel
theorem dL_isWhole_169 : decode cL_isWhole 169 = .ok (.aload_n 0, 1) := by decide +kernel
theorem dL_isWhole_170 : decode cL_isWhole 170 = .ok (.iconst 0, 1) := by decide +kernel
theorem dL_isWhole_171 : decode cL_isWhole 171 = .ok (.invokevirtual 68, 3) := by decide +kernel
theorem dL_isWhole_174 : decode cL_isWhole 174 = .ok (.invokevirtual 163, 3) := by decide +kernel
theorem dL_isWhole_177 : decode cL_isWhole 177 = .ok (.iconst (-1), 1) := by decide +kernel
theorem dL_isWhole_178 : decode cL_isWhole 178 = .ok (.if_icmp .ne 7, 3) := by decide +kernel
theorem dL_isWhole_181 : decode cL_isWhole 181 = .ok (.iconst 1, 1) := by decide +kernel
theorem dL_isWhole_182 : decode cL_isWhole 182 = .ok (.goto 4, 3) := by decide +kernel
theorem dL_isWhole_185 : decode cL_isWhole 185 = .ok (.iconst 0, 1) := by decide +kernel
theorem dL_isWhole_186 : decode cL_isWhole 186 = .ok (.ireturn, 1) := by decide +kernel
theorem dL_digest_0 : decode cL_digest 0 = .ok (.sipush 900, 3) := by decide +kernel
theorem dL_digest_3 : decode cL_digest 3 = .ok (.newarray .int, 2) := by decide +kernel
theorem dL_digest_5 : decode cL_digest 5 = .ok (.astore_n 1, 1) := by decide +kernel
theorem dL_digest_6 : decode cL_digest 6 = .ok (.iconst 0, 1) := by decide +kernel
theorem dL_digest_7 : decode cL_digest 7 = .ok (.istore_n 2, 1) := by decide +kernel
theorem dL_digest_8 : decode cL_digest 8 = .ok (.iconst 0, 1) := by decide +kernel
theorem dL_digest_9 : decode cL_digest 9 = .ok (.istore_n 3, 1) := by decide +kernel
