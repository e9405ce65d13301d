theorem dL_law_264 : decode cL_law 264 = .ok (.aload_n 3, 1) := by decide +kernel
theorem dL_law_265 : decode cL_law 265 = .ok (.iconst 3, 1) := by decide +kernel
theorem dL_law_266 : decode cL_law 266 = .ok (.iload 11, 2) := by decide +kernel
theorem dL_law_268 : decode cL_law 268 = .ok (.imul, 1) := by decide +kernel
theorem dL_law_269 : decode cL_law 269 = .ok (.iaload, 1) := by decide +kernel
theorem dL_law_270 : decode cL_law 270 = .ok (.aload_n 3, 1) := by decide +kernel
theorem dL_law_271 : decode cL_law 271 = .ok (.iconst 3, 1) := by decide +kernel
theorem dL_law_272 : decode cL_law 272 = .ok (.iload 11, 2) := by decide +kernel
theorem dL_law_274 : decode cL_law 274 = .ok (.imul, 1) := by decide +kernel
theorem dL_law_275 : decode cL_law 275 = .ok (.iconst 1, 1) := by decide +kernel
theorem dL_law_276 : decode cL_law 276 = .ok (.iadd, 1) := by decide +kernel
theorem dL_law_277 : decode cL_law 277 = .ok (.iaload, 1) := by decide +kernel
theorem dL_law_278 : decode cL_law 278 = .ok (.invokevirtual 118, 3) := by decide +kernel
theorem dL_law_281 : decode cL_law 281 = .ok (.iload 11, 2) := by decide +kernel
theorem dL_law_283 : decode cL_law 283 = .ok (.if_icmp .ne 7, 3) := by decide +kernel
theorem dL_law_286 : decode cL_law 286 = .ok (.iconst 1, 1) := by decide +kernel
theorem dL_law_287 : decode cL_law 287 = .ok (.goto 4, 3) := by decide +kernel
theorem dL_law_290 : decode cL_law 290 = .ok (.iconst 0, 1) := by decide +kernel
theorem dL_law_291 : decode cL_law 291 = .ok (.istore 10, 2) := by decide +kernel
theorem dL_law_293 : decode cL_law 293 = .ok (.iinc 11 1, 3) := by decide +kernel
theorem dL_law_296 : decode cL_law 296 = .ok (.goto (-89), 3) := by decide +kernel
theorem dL_law_299 : decode cL_law 299 = .ok (.iconst 0, 1) := by decide +kernel
theorem dL_law_300 : decode cL_law 300 = .ok (.istore 11, 2) := by decide +kernel
theorem dL_law_302 : decode cL_law 302 = .ok (.iconst 0, 1) := by decide +kernel
theorem dL_law_303 : decode cL_law 303 = .ok (.istore 12, 2) := by decide +kernel
theorem dL_law_305 : decode cL_law 305 = .ok (.iload 12, 2) := by decide +kernel
theorem dL_law_307 : decode cL_law 307 = .ok (.bipush 120, 2) := by decide +kernel
theorem dL_law_309 : decode cL_law 309 = .ok (.if_icmp .ge 254, 3) := by decide +kernel
theorem dL_law_312 : decode cL_law 312 = .ok (.iload 10, 2) := by decide +kernel
theorem dL_law_314 : decode cL_law 314 = .ok (.ifCond .eq 249, 3) := by decide +kernel
theorem dL_law_317 : decode cL_law 317 = .ok (.aload_n 0, 1) := by decide +kernel
theorem dL_law_318 : decode cL_law 318 = .ok (.iload 12, 2) := by decide +kernel
theorem dL_law_320 : decode cL_law 320 = .ok (.invokestatic 104, 3) := by decide +kernel
theorem dL_law_323 : decode cL_law 323 = .ok (.istore 13, 2) := by decide +kernel
theorem dL_law_325 : decode cL_law 325 = .ok (.iload 13, 2) := by decide +kernel
theorem dL_law_327 : decode cL_law 327 = .ok (.bipush 32, 2) := by decide +kernel
theorem dL_law_329 : decode cL_law 329 = .ok (.invokestatic 51, 3) := by decide +kernel
theorem dL_law_332 : decode cL_law 332 = .ok (.istore 14, 2) := by decide +kernel
theorem dL_law_334 : decode cL_law 334 = .ok (.iload 13, 2) := by decide +kernel
theorem dL_law_336 : decode cL_law 336 = .ok (.iconst 5, 1) := by decide +kernel
theorem dL_law_337 : decode cL_law 337 = .ok (.ishr, 1) := by decide +kernel
theorem dL_law_338 : decode cL_law 338 = .ok (.istore 15, 2) := by decide +kernel
theorem dL_law_340 : decode cL_law 340 = .ok (.iload 14, 2) := by decide +kernel
theorem dL_law_342 : decode cL_law 342 = .ok (.bipush 20, 2) := by decide +kernel
theorem dL_law_344 : decode cL_law 344 = .ok (.if_icmp .ge 70, 3) := by decide +kernel
theorem dL_law_347 : decode cL_law 347 = .ok (.aload_n 1, 1) := by decide +kernel
theorem dL_law_348 : decode cL_law 348 = .ok (.iload 14, 2) := by decide +kernel
theorem dL_law_350 : decode cL_law 350 = .ok (.bipush 7, 2) := by decide +kernel
theorem dL_law_352 : decode cL_law 352 = .ok (.if_icmp .ge 7, 3) := by decide +kernel
theorem dL_law_355 : decode cL_law 355 = .ok (.iconst 0, 1) := by decide +kernel
theorem dL_law_356 : decode cL_law 356 = .ok (.goto 37, 3) := by decide +kernel
theorem dL_law_359 : decode cL_law 359 = .ok (.iload 14, 2) := by decide +kernel
theorem dL_law_361 : decode cL_law 361 = .ok (.bipush 10, 2) := by decide +kernel
theorem dL_law_363 : decode cL_law 363 = .ok (.if_icmp .ge 7, 3) := by decide +kernel
theorem dL_law_366 : decode cL_law 366 = .ok (.iconst 1, 1) := by decide +kernel
theorem dL_law_367 : decode cL_law 367 = .ok (.goto 26, 3) := by decide +kernel
theorem dL_law_370 : decode cL_law 370 = .ok (.iload 14, 2) := by decide +kernel
theorem dL_law_372 : decode cL_law 372 = .ok (.bipush 10, 2) := by decide +kernel
theorem dL_law_374 : decode cL_law 374 = .ok (.if_icmp .ne 7, 3) := by decide +kernel
theorem dL_law_377 : decode cL_law 377 = .ok (.iconst 2, 1) := by decide +kernel
theorem dL_law_378 : decode cL_law 378 = .ok (.goto 15, 3) := by decide +kernel
theorem dL_law_381 : decode cL_law 381 = .ok (.iload 14, 2) := by decide +kernel
theorem dL_law_383 : decode cL_law 383 = .ok (.bipush 18, 2) := by decide +kernel
theorem dL_law_385 : decode cL_law 385 = .ok (.if_icmp .ge 7, 3) := by decide +kernel
theorem dL_law_388 : decode cL_law 388 = .ok (.iconst 3, 1) := by decide +kernel
theorem dL_law_389 : decode cL_law 389 = .ok (.goto 4, 3) := by decide +kernel
theorem dL_law_392 : decode cL_law 392 = .ok (.iconst 4, 1) := by decide +kernel
theorem dL_law_393 : decode cL_law 393 = .ok (.iload 15, 2) := by decide +kernel
theorem dL_law_395 : decode cL_law 395 = .ok (.aload_n 3, 1) := by decide +kernel
theorem dL_law_396 : decode cL_law 396 = .ok (.aload 4, 2) := by decide +kernel
theorem dL_law_398 : decode cL_law 398 = .ok (.aload 5, 2) := by decide +kernel
theorem dL_law_400 : decode cL_law 400 = .ok (.aload 6, 2) := by decide +kernel
theorem dL_law_402 : decode cL_law 402 = .ok (.aload 7, 2) := by decide +kernel
theorem dL_law_404 : decode cL_law 404 = .ok (.aload 9, 2) := by decide +kernel
theorem dL_law_406 : decode cL_law 406 = .ok (.invokestatic 121, 3) := by decide +kernel
theorem dL_law_409 : decode cL_law 409 = .ok (.istore 10, 2) := by decide +kernel
theorem dL_law_411 : decode cL_law 411 = .ok (.goto 111, 3) := by decide +kernel
theorem dL_law_414 : decode cL_law 414 = .ok (.iload 14, 2) := by decide +kernel
theorem dL_law_416 : decode cL_law 416 = .ok (.bipush 28, 2) := by decide +kernel
theorem dL_law_418 : decode cL_law 418 = .ok (.if_icmp .ge 46, 3) := by decide +kernel
theorem dL_law_421 : decode cL_law 421 = .ok (.aload_n 1, 1) := by decide +kernel
theorem dL_law_422 : decode cL_law 422 = .ok (.iload 14, 2) := by decide +kernel
theorem dL_law_424 : decode cL_law 424 = .ok (.bipush 23, 2) := by decide +kernel
theorem dL_law_426 : decode cL_law 426 = .ok (.if_icmp .ge 7, 3) := by decide +kernel
theorem dL_law_429 : decode cL_law 429 = .ok (.iconst 0, 1) := by decide +kernel
theorem dL_law_430 : decode cL_law 430 = .ok (.goto 15, 3) := by decide +kernel
theorem dL_law_433 : decode cL_law 433 = .ok (.iload 14, 2) := by decide +kernel
theorem dL_law_435 : decode cL_law 435 = .ok (.bipush 26, 2) := by decide +kernel
theorem dL_law_437 : decode cL_law 437 = .ok (.if_icmp .ge 7, 3) := by decide +kernel
theorem dL_law_440 : decode cL_law 440 = .ok (.iconst 1, 1) := by decide +kernel
theorem dL_law_441 : decode cL_law 441 = .ok (.goto 4, 3) := by decide +kernel
theorem dL_law_444 : decode cL_law 444 = .ok (.iconst 2, 1) := by decide +kernel
theorem dL_law_445 : decode cL_law 445 = .ok (.iload 15, 2) := by decide +kernel
theorem dL_law_447 : decode cL_law 447 = .ok (.aload_n 3, 1) := by decide +kernel
theorem dL_law_448 : decode cL_law 448 = .ok (.aload 5, 2) := by decide +kernel
theorem dL_law_450 : decode cL_law 450 = .ok (.aload 6, 2) := by decide +kernel
theorem dL_law_452 : decode cL_law 452 = .ok (.aload 7, 2) := by decide +kernel
theorem dL_law_454 : decode cL_law 454 = .ok (.aload 8, 2) := by decide +kernel
theorem dL_law_456 : decode cL_law 456 = .ok (.invokestatic 125, 3) := by decide +kernel
theorem dL_law_459 : decode cL_law 459 = .ok (.istore 10, 2) := by decide +kernel
theorem dL_law_461 : decode cL_law 461 = .ok (.goto 61, 3) := by decide +kernel
theorem dL_law_464 : decode cL_law 464 = .ok (.iconst 1, 1) := by decide +kernel
theorem dL_law_465 : decode cL_law 465 = .ok (.iload 15, 2) := by decide +kernel
theorem dL_law_467 : decode cL_law 467 = .ok (.iconst 5, 1) := by decide +kernel
theorem dL_law_468 : decode cL_law 468 = .ok (.invokestatic 51, 3) := by decide +kernel
theorem dL_law_471 : decode cL_law 471 = .ok (.iadd, 1) := by decide +kernel
theorem dL_law_472 : decode cL_law 472 = .ok (.istore 16, 2) := by decide +kernel
theorem dL_law_474 : decode cL_law 474 = .ok (.iconst 0, 1) := by decide +kernel
theorem dL_law_475 : decode cL_law 475 = .ok (.istore 17, 2) := by decide +kernel
theorem dL_law_477 : decode cL_law 477 = .ok (.iload 17, 2) := by decide +kernel
theorem dL_law_479 : decode cL_law 479 = .ok (.iload 16, 2) := by decide +kernel
theorem dL_law_481 : decode cL_law 481 = .ok (.if_icmp .ge 16, 3) := by decide +kernel
theorem dL_law_484 : decode cL_law 484 = .ok (.aload 7, 2) := by decide +kernel
theorem dL_law_486 : decode cL_law 486 = .ok (.aload 8, 2) := by decide +kernel
theorem dL_law_488 : decode cL_law 488 = .ok (.invokestatic 129, 3) := by decide +kernel
theorem dL_law_491 : decode cL_law 491 = .ok (.iinc 17 1, 3) := by decide +kernel
theorem dL_law_494 : decode cL_law 494 = .ok (.goto (-17), 3) := by decide +kernel
theorem dL_law_497 : decode cL_law 497 = .ok (.iload 11, 2) := by decide +kernel
theorem dL_law_499 : decode cL_law 499 = .ok (.iload 16, 2) := by decide +kernel
theorem dL_law_501 : decode cL_law 501 = .ok (.iadd, 1) := by decide +kernel
theorem dL_law_502 : decode cL_law 502 = .ok (.istore 11, 2) := by decide +kernel
theorem dL_law_504 : decode cL_law 504 = .ok (.aload_n 1, 1) := by decide +kernel
theorem dL_law_505 : decode cL_law 505 = .ok (.iload 16, 2) := by decide +kernel
theorem dL_law_507 : decode cL_law 507 = .ok (.invokevirtual 133, 3) := by decide +kernel
theorem dL_law_510 : decode cL_law 510 = .ok (.iload 11, 2) := by decide +kernel
theorem dL_law_512 : decode cL_law 512 = .ok (.if_icmp .ne 7, 3) := by decide +kernel
theorem dL_law_515 : decode cL_law 515 = .ok (.iconst 1, 1) := by decide +kernel
theorem dL_law_516 : decode cL_law 516 = .ok (.goto 4, 3) := by decide +kernel
theorem dL_law_519 : decode cL_law 519 = .ok (.iconst 0, 1) := by decide +kernel
theorem dL_law_520 : decode cL_law 520 = .ok (.istore 10, 2) := by decide +kernel
theorem dL_law_522 : decode cL_law 522 = .ok (.iload 10, 2) := by decide +kernel
theorem dL_law_524 : decode cL_law 524 = .ok (.ifCond .eq 30, 3) := by decide +kernel
theorem dL_law_527 : decode cL_law 527 = .ok (.aload_n 1, 1) := by decide +kernel
theorem dL_law_528 : decode cL_law 528 = .ok (.iload 15, 2) := by decide +kernel
theorem dL_law_530 : decode cL_law 530 = .ok (.iconst 1, 1) := by decide +kernel
theorem dL_law_531 : decode cL_law 531 = .ok (.ishr, 1) := by decide +kernel
theorem dL_law_532 : decode cL_law 532 = .ok (.aload_n 2, 1) := by decide +kernel
theorem dL_law_533 : decode cL_law 533 = .ok (.aload_n 3, 1) := by decide +kernel
theorem dL_law_534 : decode cL_law 534 = .ok (.aload 4, 2) := by decide +kernel
theorem dL_law_536 : decode cL_law 536 = .ok (.aload 5, 2) := by decide +kernel
theorem dL_law_538 : decode cL_law 538 = .ok (.aload 6, 2) := by decide +kernel
theorem dL_law_540 : decode cL_law 540 = .ok (.aload 7, 2) := by decide +kernel
theorem dL_law_542 : decode cL_law 542 = .ok (.aload 8, 2) := by decide +kernel
theorem dL_law_544 : decode cL_law 544 = .ok (.invokestatic 136, 3) := by decide +kernel
theorem dL_law_547 : decode cL_law 547 = .ok (.ifCond .eq 7, 3) := by decide +kernel
theorem dL_law_550 : decode cL_law 550 = .ok (.iconst 1, 1) := by decide +kernel
theorem dL_law_551 : decode cL_law 551 = .ok (.goto 4, 3) := by decide +kernel
theorem dL_law_554 : decode cL_law 554 = .ok (.iconst 0, 1) := by decide +kernel
theorem dL_law_555 : decode cL_law 555 = .ok (.istore 10, 2) := by decide +kernel
theorem dL_law_557 : decode cL_law 557 = .ok (.iinc 12 1, 3) := by decide +kernel
theorem dL_law_560 : decode cL_law 560 = .ok (.goto (-255), 3) := by decide +kernel
theorem dL_law_563 : decode cL_law 563 = .ok (.iload 10, 2) := by decide +kernel
theorem dL_law_565 : decode cL_law 565 = .ok (.ireturn, 1) := by decide +kernel
