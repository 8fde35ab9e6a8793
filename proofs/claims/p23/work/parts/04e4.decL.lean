theorem dL_acts_243 : decode cL_acts 243 = .ok (.if_icmp .ne 115, 3) := by decide +kernel
theorem dL_acts_246 : decode cL_acts 246 = .ok (.iload 10, 2) := by decide +kernel
theorem dL_acts_248 : decode cL_acts 248 = .ok (.iconst 4, 1) := by decide +kernel
theorem dL_acts_249 : decode cL_acts 249 = .ok (.irem, 1) := by decide +kernel
theorem dL_acts_250 : decode cL_acts 250 = .ok (.ifCond .ne 108, 3) := by decide +kernel
theorem dL_acts_253 : decode cL_acts 253 = .ok (.aload 8, 2) := by decide +kernel
theorem dL_acts_255 : decode cL_acts 255 = .ok (.iconst 0, 1) := by decide +kernel
theorem dL_acts_256 : decode cL_acts 256 = .ok (.iaload, 1) := by decide +kernel
theorem dL_acts_257 : decode cL_acts 257 = .ok (.ifCond .le 15, 3) := by decide +kernel
theorem dL_acts_260 : decode cL_acts 260 = .ok (.aload 6, 2) := by decide +kernel
theorem dL_acts_262 : decode cL_acts 262 = .ok (.iload 11, 2) := by decide +kernel
theorem dL_acts_264 : decode cL_acts 264 = .ok (.iaload, 1) := by decide +kernel
theorem dL_acts_265 : decode cL_acts 265 = .ok (.ifCond .ne 7, 3) := by decide +kernel
theorem dL_acts_268 : decode cL_acts 268 = .ok (.iconst 1, 1) := by decide +kernel
theorem dL_acts_269 : decode cL_acts 269 = .ok (.goto 4, 3) := by decide +kernel
theorem dL_acts_272 : decode cL_acts 272 = .ok (.iconst 0, 1) := by decide +kernel
theorem dL_acts_273 : decode cL_acts 273 = .ok (.istore 12, 2) := by decide +kernel
theorem dL_acts_275 : decode cL_acts 275 = .ok (.iconst 0, 1) := by decide +kernel
theorem dL_acts_276 : decode cL_acts 276 = .ok (.istore 13, 2) := by decide +kernel
theorem dL_acts_278 : decode cL_acts 278 = .ok (.iconst 0, 1) := by decide +kernel
theorem dL_acts_279 : decode cL_acts 279 = .ok (.istore 14, 2) := by decide +kernel
theorem dL_acts_281 : decode cL_acts 281 = .ok (.iload 14, 2) := by decide +kernel
theorem dL_acts_283 : decode cL_acts 283 = .ok (.aload 8, 2) := by decide +kernel
theorem dL_acts_285 : decode cL_acts 285 = .ok (.iconst 0, 1) := by decide +kernel
theorem dL_acts_286 : decode cL_acts 286 = .ok (.iaload, 1) := by decide +kernel
theorem dL_acts_287 : decode cL_acts 287 = .ok (.if_icmp .ge 21, 3) := by decide +kernel
theorem dL_acts_290 : decode cL_acts 290 = .ok (.iload 13, 2) := by decide +kernel
theorem dL_acts_292 : decode cL_acts 292 = .ok (.iconst 1, 1) := by decide +kernel
theorem dL_acts_293 : decode cL_acts 293 = .ok (.aload 6, 2) := by decide +kernel
theorem dL_acts_295 : decode cL_acts 295 = .ok (.iload 14, 2) := by decide +kernel
theorem dL_acts_297 : decode cL_acts 297 = .ok (.iaload, 1) := by decide +kernel
theorem dL_acts_298 : decode cL_acts 298 = .ok (.isub, 1) := by decide +kernel
theorem dL_acts_299 : decode cL_acts 299 = .ok (.iadd, 1) := by decide +kernel
theorem dL_acts_300 : decode cL_acts 300 = .ok (.istore 13, 2) := by decide +kernel
theorem dL_acts_302 : decode cL_acts 302 = .ok (.iinc 14 1, 3) := by decide +kernel
theorem dL_acts_305 : decode cL_acts 305 = .ok (.goto (-24), 3) := by decide +kernel
theorem dL_acts_308 : decode cL_acts 308 = .ok (.iload 12, 2) := by decide +kernel
theorem dL_acts_310 : decode cL_acts 310 = .ok (.ifCond .ne 23, 3) := by decide +kernel
theorem dL_acts_313 : decode cL_acts 313 = .ok (.aload_n 0, 1) := by decide +kernel
theorem dL_acts_314 : decode cL_acts 314 = .ok (.iconst 3, 1) := by decide +kernel
theorem dL_acts_315 : decode cL_acts 315 = .ok (.iload 11, 2) := by decide +kernel
theorem dL_acts_317 : decode cL_acts 317 = .ok (.invokestatic 68, 3) := by decide +kernel
theorem dL_acts_320 : decode cL_acts 320 = .ok (.ldc2_w 53, 3) := by decide +kernel
theorem dL_acts_323 : decode cL_acts 323 = .ok (.lcmp, 1) := by decide +kernel
theorem dL_acts_324 : decode cL_acts 324 = .ok (.ifCond .ne 7, 3) := by decide +kernel
theorem dL_acts_327 : decode cL_acts 327 = .ok (.iconst 1, 1) := by decide +kernel
theorem dL_acts_328 : decode cL_acts 328 = .ok (.goto 4, 3) := by decide +kernel
theorem dL_acts_331 : decode cL_acts 331 = .ok (.iconst 0, 1) := by decide +kernel
theorem dL_acts_332 : decode cL_acts 332 = .ok (.ireturn, 1) := by decide +kernel
theorem dL_acts_333 : decode cL_acts 333 = .ok (.aload 6, 2) := by decide +kernel
theorem dL_acts_335 : decode cL_acts 335 = .ok (.iload 11, 2) := by decide +kernel
theorem dL_acts_337 : decode cL_acts 337 = .ok (.iconst 1, 1) := by decide +kernel
theorem dL_acts_338 : decode cL_acts 338 = .ok (.iastore, 1) := by decide +kernel
theorem dL_acts_339 : decode cL_acts 339 = .ok (.aload_n 0, 1) := by decide +kernel
theorem dL_acts_340 : decode cL_acts 340 = .ok (.iload 11, 2) := by decide +kernel
theorem dL_acts_342 : decode cL_acts 342 = .ok (.invokevirtual 98, 3) := by decide +kernel
theorem dL_acts_345 : decode cL_acts 345 = .ok (.iload 13, 2) := by decide +kernel
theorem dL_acts_347 : decode cL_acts 347 = .ok (.iconst 1, 1) := by decide +kernel
theorem dL_acts_348 : decode cL_acts 348 = .ok (.isub, 1) := by decide +kernel
theorem dL_acts_349 : decode cL_acts 349 = .ok (.if_icmp .ne 7, 3) := by decide +kernel
theorem dL_acts_352 : decode cL_acts 352 = .ok (.iconst 1, 1) := by decide +kernel
theorem dL_acts_353 : decode cL_acts 353 = .ok (.goto 4, 3) := by decide +kernel
theorem dL_acts_356 : decode cL_acts 356 = .ok (.iconst 0, 1) := by decide +kernel
theorem dL_acts_357 : decode cL_acts 357 = .ok (.ireturn, 1) := by decide +kernel
theorem dL_acts_358 : decode cL_acts 358 = .ok (.iload 9, 2) := by decide +kernel
theorem dL_acts_360 : decode cL_acts 360 = .ok (.bipush 7, 2) := by decide +kernel
theorem dL_acts_362 : decode cL_acts 362 = .ok (.if_icmp .ge 106, 3) := by decide +kernel
theorem dL_acts_365 : decode cL_acts 365 = .ok (.aload 8, 2) := by decide +kernel
theorem dL_acts_367 : decode cL_acts 367 = .ok (.iconst 0, 1) := by decide +kernel
theorem dL_acts_368 : decode cL_acts 368 = .ok (.iaload, 1) := by decide +kernel
theorem dL_acts_369 : decode cL_acts 369 = .ok (.ifCond .eq 12, 3) := by decide +kernel
theorem dL_acts_372 : decode cL_acts 372 = .ok (.aload 6, 2) := by decide +kernel
theorem dL_acts_374 : decode cL_acts 374 = .ok (.iload 11, 2) := by decide +kernel
theorem dL_acts_376 : decode cL_acts 376 = .ok (.iaload, 1) := by decide +kernel
theorem dL_acts_377 : decode cL_acts 377 = .ok (.iconst 1, 1) := by decide +kernel
theorem dL_acts_378 : decode cL_acts 378 = .ok (.if_icmp .ne 23, 3) := by decide +kernel
theorem dL_acts_381 : decode cL_acts 381 = .ok (.aload_n 0, 1) := by decide +kernel
theorem dL_acts_382 : decode cL_acts 382 = .ok (.iconst 3, 1) := by decide +kernel
theorem dL_acts_383 : decode cL_acts 383 = .ok (.iload 11, 2) := by decide +kernel
theorem dL_acts_385 : decode cL_acts 385 = .ok (.invokestatic 68, 3) := by decide +kernel
theorem dL_acts_388 : decode cL_acts 388 = .ok (.ldc2_w 53, 3) := by decide +kernel
theorem dL_acts_391 : decode cL_acts 391 = .ok (.lcmp, 1) := by decide +kernel
theorem dL_acts_392 : decode cL_acts 392 = .ok (.ifCond .ne 7, 3) := by decide +kernel
theorem dL_acts_395 : decode cL_acts 395 = .ok (.iconst 1, 1) := by decide +kernel
theorem dL_acts_396 : decode cL_acts 396 = .ok (.goto 4, 3) := by decide +kernel
theorem dL_acts_399 : decode cL_acts 399 = .ok (.iconst 0, 1) := by decide +kernel
theorem dL_acts_400 : decode cL_acts 400 = .ok (.ireturn, 1) := by decide +kernel
theorem dL_acts_401 : decode cL_acts 401 = .ok (.aload 5, 2) := by decide +kernel
theorem dL_acts_403 : decode cL_acts 403 = .ok (.iload 11, 2) := by decide +kernel
theorem dL_acts_405 : decode cL_acts 405 = .ok (.iaload, 1) := by decide +kernel
theorem dL_acts_406 : decode cL_acts 406 = .ok (.istore 12, 2) := by decide +kernel
theorem dL_acts_408 : decode cL_acts 408 = .ok (.aload 5, 2) := by decide +kernel
theorem dL_acts_410 : decode cL_acts 410 = .ok (.iload 11, 2) := by decide +kernel
theorem dL_acts_412 : decode cL_acts 412 = .ok (.iload 10, 2) := by decide +kernel
theorem dL_acts_414 : decode cL_acts 414 = .ok (.bipush 9, 2) := by decide +kernel
theorem dL_acts_416 : decode cL_acts 416 = .ok (.irem, 1) := by decide +kernel
theorem dL_acts_417 : decode cL_acts 417 = .ok (.ifCond .ne 7, 3) := by decide +kernel
theorem dL_acts_420 : decode cL_acts 420 = .ok (.iconst (-1), 1) := by decide +kernel
theorem dL_acts_421 : decode cL_acts 421 = .ok (.goto 24, 3) := by decide +kernel
theorem dL_acts_424 : decode cL_acts 424 = .ok (.iload 10, 2) := by decide +kernel
theorem dL_acts_426 : decode cL_acts 426 = .ok (.bipush 12, 2) := by decide +kernel
theorem dL_acts_428 : decode cL_acts 428 = .ok (.idiv, 1) := by decide +kernel
theorem dL_acts_429 : decode cL_acts 429 = .ok (.iload 10, 2) := by decide +kernel
theorem dL_acts_431 : decode cL_acts 431 = .ok (.iconst 3, 1) := by decide +kernel
theorem dL_acts_432 : decode cL_acts 432 = .ok (.irem, 1) := by decide +kernel
theorem dL_acts_433 : decode cL_acts 433 = .ok (.ifCond .ne 8, 3) := by decide +kernel
theorem dL_acts_436 : decode cL_acts 436 = .ok (.ldc 101, 2) := by decide +kernel
theorem dL_acts_438 : decode cL_acts 438 = .ok (.goto 6, 3) := by decide +kernel
theorem dL_acts_441 : decode cL_acts 441 = .ok (.sipush 2000, 3) := by decide +kernel
theorem dL_acts_444 : decode cL_acts 444 = .ok (.irem, 1) := by decide +kernel
theorem dL_acts_445 : decode cL_acts 445 = .ok (.iastore, 1) := by decide +kernel
theorem dL_acts_446 : decode cL_acts 446 = .ok (.aload_n 0, 1) := by decide +kernel
theorem dL_acts_447 : decode cL_acts 447 = .ok (.iload 11, 2) := by decide +kernel
theorem dL_acts_449 : decode cL_acts 449 = .ok (.aload 5, 2) := by decide +kernel
theorem dL_acts_451 : decode cL_acts 451 = .ok (.iload 11, 2) := by decide +kernel
theorem dL_acts_453 : decode cL_acts 453 = .ok (.iaload, 1) := by decide +kernel
theorem dL_acts_454 : decode cL_acts 454 = .ok (.invokevirtual 47, 3) := by decide +kernel
theorem dL_acts_457 : decode cL_acts 457 = .ok (.iload 12, 2) := by decide +kernel
theorem dL_acts_459 : decode cL_acts 459 = .ok (.if_icmp .ne 7, 3) := by decide +kernel
theorem dL_acts_462 : decode cL_acts 462 = .ok (.iconst 1, 1) := by decide +kernel
theorem dL_acts_463 : decode cL_acts 463 = .ok (.goto 4, 3) := by decide +kernel
theorem dL_acts_466 : decode cL_acts 466 = .ok (.iconst 0, 1) := by decide +kernel
theorem dL_acts_467 : decode cL_acts 467 = .ok (.ireturn, 1) := by decide +kernel
theorem dL_acts_468 : decode cL_acts 468 = .ok (.iload 9, 2) := by decide +kernel
theorem dL_acts_470 : decode cL_acts 470 = .ok (.bipush 7, 2) := by decide +kernel
theorem dL_acts_472 : decode cL_acts 472 = .ok (.if_icmp .ne 84, 3) := by decide +kernel
theorem dL_acts_475 : decode cL_acts 475 = .ok (.aload 8, 2) := by decide +kernel
theorem dL_acts_477 : decode cL_acts 477 = .ok (.iconst 1, 1) := by decide +kernel
theorem dL_acts_478 : decode cL_acts 478 = .ok (.iaload, 1) := by decide +kernel
theorem dL_acts_479 : decode cL_acts 479 = .ok (.istore 12, 2) := by decide +kernel
theorem dL_acts_481 : decode cL_acts 481 = .ok (.aload 8, 2) := by decide +kernel
theorem dL_acts_483 : decode cL_acts 483 = .ok (.iconst 1, 1) := by decide +kernel
theorem dL_acts_484 : decode cL_acts 484 = .ok (.iload 10, 2) := by decide +kernel
theorem dL_acts_486 : decode cL_acts 486 = .ok (.iconst 3, 1) := by decide +kernel
theorem dL_acts_487 : decode cL_acts 487 = .ok (.irem, 1) := by decide +kernel
theorem dL_acts_488 : decode cL_acts 488 = .ok (.ifCond .ne 7, 3) := by decide +kernel
theorem dL_acts_491 : decode cL_acts 491 = .ok (.iconst 0, 1) := by decide +kernel
theorem dL_acts_492 : decode cL_acts 492 = .ok (.goto 11, 3) := by decide +kernel
theorem dL_acts_495 : decode cL_acts 495 = .ok (.iload 10, 2) := by decide +kernel
theorem dL_acts_497 : decode cL_acts 497 = .ok (.iconst 3, 1) := by decide +kernel
theorem dL_acts_498 : decode cL_acts 498 = .ok (.idiv, 1) := by decide +kernel
theorem dL_acts_499 : decode cL_acts 499 = .ok (.sipush 200, 3) := by decide +kernel
theorem dL_acts_502 : decode cL_acts 502 = .ok (.irem, 1) := by decide +kernel
theorem dL_acts_503 : decode cL_acts 503 = .ok (.iastore, 1) := by decide +kernel
theorem dL_acts_504 : decode cL_acts 504 = .ok (.aload 8, 2) := by decide +kernel
theorem dL_acts_506 : decode cL_acts 506 = .ok (.iconst 2, 1) := by decide +kernel
theorem dL_acts_507 : decode cL_acts 507 = .ok (.iload 10, 2) := by decide +kernel
theorem dL_acts_509 : decode cL_acts 509 = .ok (.sipush 600, 3) := by decide +kernel
theorem dL_acts_512 : decode cL_acts 512 = .ok (.idiv, 1) := by decide +kernel
theorem dL_acts_513 : decode cL_acts 513 = .ok (.iconst 4, 1) := by decide +kernel
theorem dL_acts_514 : decode cL_acts 514 = .ok (.irem, 1) := by decide +kernel
theorem dL_acts_515 : decode cL_acts 515 = .ok (.ifCond .ne 7, 3) := by decide +kernel
theorem dL_acts_518 : decode cL_acts 518 = .ok (.iconst (-1), 1) := by decide +kernel
theorem dL_acts_519 : decode cL_acts 519 = .ok (.goto 13, 3) := by decide +kernel
theorem dL_acts_522 : decode cL_acts 522 = .ok (.iload 10, 2) := by decide +kernel
theorem dL_acts_524 : decode cL_acts 524 = .ok (.sipush 2400, 3) := by decide +kernel
theorem dL_acts_527 : decode cL_acts 527 = .ok (.idiv, 1) := by decide +kernel
theorem dL_acts_528 : decode cL_acts 528 = .ok (.sipush 150, 3) := by decide +kernel
theorem dL_acts_531 : decode cL_acts 531 = .ok (.irem, 1) := by decide +kernel
theorem dL_acts_532 : decode cL_acts 532 = .ok (.iastore, 1) := by decide +kernel
theorem dL_acts_533 : decode cL_acts 533 = .ok (.aload_n 0, 1) := by decide +kernel
theorem dL_acts_534 : decode cL_acts 534 = .ok (.aload 8, 2) := by decide +kernel
theorem dL_acts_536 : decode cL_acts 536 = .ok (.iconst 1, 1) := by decide +kernel
theorem dL_acts_537 : decode cL_acts 537 = .ok (.iaload, 1) := by decide +kernel
theorem dL_acts_538 : decode cL_acts 538 = .ok (.aload 8, 2) := by decide +kernel
theorem dL_acts_540 : decode cL_acts 540 = .ok (.iconst 2, 1) := by decide +kernel
theorem dL_acts_541 : decode cL_acts 541 = .ok (.iaload, 1) := by decide +kernel
theorem dL_acts_542 : decode cL_acts 542 = .ok (.invokevirtual 102, 3) := by decide +kernel
theorem dL_acts_545 : decode cL_acts 545 = .ok (.iload 12, 2) := by decide +kernel
theorem dL_acts_547 : decode cL_acts 547 = .ok (.if_icmp .ne 7, 3) := by decide +kernel
theorem dL_acts_550 : decode cL_acts 550 = .ok (.iconst 1, 1) := by decide +kernel
theorem dL_acts_551 : decode cL_acts 551 = .ok (.goto 4, 3) := by decide +kernel
theorem dL_acts_554 : decode cL_acts 554 = .ok (.iconst 0, 1) := by decide +kernel
theorem dL_acts_555 : decode cL_acts 555 = .ok (.ireturn, 1) := by decide +kernel
theorem dL_acts_556 : decode cL_acts 556 = .ok (.iload 10, 2) := by decide +kernel
theorem dL_acts_558 : decode cL_acts 558 = .ok (.iconst 3, 1) := by decide +kernel
theorem dL_acts_559 : decode cL_acts 559 = .ok (.irem, 1) := by decide +kernel
theorem dL_acts_560 : decode cL_acts 560 = .ok (.istore 12, 2) := by decide +kernel
theorem dL_acts_562 : decode cL_acts 562 = .ok (.iload 9, 2) := by decide +kernel
theorem dL_acts_564 : decode cL_acts 564 = .ok (.bipush 10, 2) := by decide +kernel
theorem dL_acts_566 : decode cL_acts 566 = .ok (.if_icmp .ge 90, 3) := by decide +kernel
theorem dL_acts_569 : decode cL_acts 569 = .ok (.iload 10, 2) := by decide +kernel
theorem dL_acts_571 : decode cL_acts 571 = .ok (.iconst 3, 1) := by decide +kernel
theorem dL_acts_572 : decode cL_acts 572 = .ok (.idiv, 1) := by decide +kernel
theorem dL_acts_573 : decode cL_acts 573 = .ok (.iload 12, 2) := by decide +kernel
theorem dL_acts_575 : decode cL_acts 575 = .ok (.invokestatic 21, 3) := by decide +kernel
theorem dL_acts_578 : decode cL_acts 578 = .ok (.irem, 1) := by decide +kernel
theorem dL_acts_579 : decode cL_acts 579 = .ok (.istore 13, 2) := by decide +kernel
theorem dL_acts_581 : decode cL_acts 581 = .ok (.aload 7, 2) := by decide +kernel
theorem dL_acts_583 : decode cL_acts 583 = .ok (.iconst 4, 1) := by decide +kernel
theorem dL_acts_584 : decode cL_acts 584 = .ok (.iload 12, 2) := by decide +kernel
theorem dL_acts_586 : decode cL_acts 586 = .ok (.imul, 1) := by decide +kernel
theorem dL_acts_587 : decode cL_acts 587 = .ok (.iload 13, 2) := by decide +kernel
theorem dL_acts_589 : decode cL_acts 589 = .ok (.iadd, 1) := by decide +kernel
theorem dL_acts_590 : decode cL_acts 590 = .ok (.iaload, 1) := by decide +kernel
theorem dL_acts_591 : decode cL_acts 591 = .ok (.istore 14, 2) := by decide +kernel
theorem dL_acts_593 : decode cL_acts 593 = .ok (.aload 7, 2) := by decide +kernel
theorem dL_acts_595 : decode cL_acts 595 = .ok (.iconst 4, 1) := by decide +kernel
theorem dL_acts_596 : decode cL_acts 596 = .ok (.iload 12, 2) := by decide +kernel
theorem dL_acts_598 : decode cL_acts 598 = .ok (.imul, 1) := by decide +kernel
theorem dL_acts_599 : decode cL_acts 599 = .ok (.iload 13, 2) := by decide +kernel
theorem dL_acts_601 : decode cL_acts 601 = .ok (.iadd, 1) := by decide +kernel
theorem dL_acts_602 : decode cL_acts 602 = .ok (.bipush 100, 2) := by decide +kernel
theorem dL_acts_604 : decode cL_acts 604 = .ok (.iload 10, 2) := by decide +kernel
theorem dL_acts_606 : decode cL_acts 606 = .ok (.bipush 12, 2) := by decide +kernel
theorem dL_acts_608 : decode cL_acts 608 = .ok (.idiv, 1) := by decide +kernel
theorem dL_acts_609 : decode cL_acts 609 = .ok (.iload 10, 2) := by decide +kernel
theorem dL_acts_611 : decode cL_acts 611 = .ok (.iconst 4, 1) := by decide +kernel
theorem dL_acts_612 : decode cL_acts 612 = .ok (.irem, 1) := by decide +kernel
theorem dL_acts_613 : decode cL_acts 613 = .ok (.ifCond .ne 8, 3) := by decide +kernel
theorem dL_acts_616 : decode cL_acts 616 = .ok (.ldc 105, 2) := by decide +kernel
theorem dL_acts_618 : decode cL_acts 618 = .ok (.goto 6, 3) := by decide +kernel
theorem dL_acts_621 : decode cL_acts 621 = .ok (.sipush 15000, 3) := by decide +kernel
theorem dL_acts_624 : decode cL_acts 624 = .ok (.irem, 1) := by decide +kernel
theorem dL_acts_625 : decode cL_acts 625 = .ok (.iadd, 1) := by decide +kernel
theorem dL_acts_626 : decode cL_acts 626 = .ok (.iastore, 1) := by decide +kernel
theorem dL_acts_627 : decode cL_acts 627 = .ok (.aload_n 0, 1) := by decide +kernel
theorem dL_acts_628 : decode cL_acts 628 = .ok (.iload 12, 2) := by decide +kernel
theorem dL_acts_630 : decode cL_acts 630 = .ok (.iload 13, 2) := by decide +kernel
theorem dL_acts_632 : decode cL_acts 632 = .ok (.aload 7, 2) := by decide +kernel
theorem dL_acts_634 : decode cL_acts 634 = .ok (.iconst 4, 1) := by decide +kernel
theorem dL_acts_635 : decode cL_acts 635 = .ok (.iload 12, 2) := by decide +kernel
theorem dL_acts_637 : decode cL_acts 637 = .ok (.imul, 1) := by decide +kernel
theorem dL_acts_638 : decode cL_acts 638 = .ok (.iload 13, 2) := by decide +kernel
theorem dL_acts_640 : decode cL_acts 640 = .ok (.iadd, 1) := by decide +kernel
theorem dL_acts_641 : decode cL_acts 641 = .ok (.iaload, 1) := by decide +kernel
theorem dL_acts_642 : decode cL_acts 642 = .ok (.invokevirtual 106, 3) := by decide +kernel
theorem dL_acts_645 : decode cL_acts 645 = .ok (.iload 14, 2) := by decide +kernel
theorem dL_acts_647 : decode cL_acts 647 = .ok (.if_icmp .ne 7, 3) := by decide +kernel
theorem dL_acts_650 : decode cL_acts 650 = .ok (.iconst 1, 1) := by decide +kernel
theorem dL_acts_651 : decode cL_acts 651 = .ok (.goto 4, 3) := by decide +kernel
theorem dL_acts_654 : decode cL_acts 654 = .ok (.iconst 0, 1) := by decide +kernel
theorem dL_acts_655 : decode cL_acts 655 = .ok (.ireturn, 1) := by decide +kernel
theorem dL_acts_656 : decode cL_acts 656 = .ok (.iload 9, 2) := by decide +kernel
theorem dL_acts_658 : decode cL_acts 658 = .ok (.bipush 13, 2) := by decide +kernel
theorem dL_acts_660 : decode cL_acts 660 = .ok (.if_icmp .ge 34, 3) := by decide +kernel
theorem dL_acts_663 : decode cL_acts 663 = .ok (.aload_n 0, 1) := by decide +kernel
theorem dL_acts_664 : decode cL_acts 664 = .ok (.iload 12, 2) := by decide +kernel
theorem dL_acts_666 : decode cL_acts 666 = .ok (.invokevirtual 110, 3) := by decide +kernel
theorem dL_acts_669 : decode cL_acts 669 = .ok (.aload_n 1, 1) := by decide +kernel
theorem dL_acts_670 : decode cL_acts 670 = .ok (.aload_n 2, 1) := by decide +kernel
theorem dL_acts_671 : decode cL_acts 671 = .ok (.aload_n 3, 1) := by decide +kernel
theorem dL_acts_672 : decode cL_acts 672 = .ok (.aload 4, 2) := by decide +kernel
theorem dL_acts_674 : decode cL_acts 674 = .ok (.aload 6, 2) := by decide +kernel
theorem dL_acts_676 : decode cL_acts 676 = .ok (.aload 7, 2) := by decide +kernel
theorem dL_acts_678 : decode cL_acts 678 = .ok (.aload 8, 2) := by decide +kernel
theorem dL_acts_680 : decode cL_acts 680 = .ok (.iload 12, 2) := by decide +kernel
theorem dL_acts_682 : decode cL_acts 682 = .ok (.invokestatic 113, 3) := by decide +kernel
theorem dL_acts_685 : decode cL_acts 685 = .ok (.if_icmp .ne 7, 3) := by decide +kernel
theorem dL_acts_688 : decode cL_acts 688 = .ok (.iconst 1, 1) := by decide +kernel
theorem dL_acts_689 : decode cL_acts 689 = .ok (.goto 4, 3) := by decide +kernel
theorem dL_acts_692 : decode cL_acts 692 = .ok (.iconst 0, 1) := by decide +kernel
theorem dL_acts_693 : decode cL_acts 693 = .ok (.ireturn, 1) := by decide +kernel
theorem dL_acts_694 : decode cL_acts 694 = .ok (.iload 9, 2) := by decide +kernel
theorem dL_acts_696 : decode cL_acts 696 = .ok (.bipush 13, 2) := by decide +kernel
theorem dL_acts_698 : decode cL_acts 698 = .ok (.if_icmp .ne 103, 3) := by decide +kernel
theorem dL_acts_701 : decode cL_acts 701 = .ok (.iconst 0, 1) := by decide +kernel
theorem dL_acts_702 : decode cL_acts 702 = .ok (.istore 13, 2) := by decide +kernel
theorem dL_acts_704 : decode cL_acts 704 = .ok (.iconst 1, 1) := by decide +kernel
theorem dL_acts_705 : decode cL_acts 705 = .ok (.istore 14, 2) := by decide +kernel
theorem dL_acts_707 : decode cL_acts 707 = .ok (.iload 14, 2) := by decide +kernel
theorem dL_acts_709 : decode cL_acts 709 = .ok (.ifCond .eq 77, 3) := by decide +kernel
theorem dL_acts_712 : decode cL_acts 712 = .ok (.iload 13, 2) := by decide +kernel
theorem dL_acts_714 : decode cL_acts 714 = .ok (.bipush 60, 2) := by decide +kernel
theorem dL_acts_716 : decode cL_acts 716 = .ok (.if_icmp .ge 70, 3) := by decide +kernel
theorem dL_acts_719 : decode cL_acts 719 = .ok (.aload_n 1, 1) := by decide +kernel
theorem dL_acts_720 : decode cL_acts 720 = .ok (.aload_n 2, 1) := by decide +kernel
theorem dL_acts_721 : decode cL_acts 721 = .ok (.aload_n 3, 1) := by decide +kernel
theorem dL_acts_722 : decode cL_acts 722 = .ok (.aload 4, 2) := by decide +kernel
theorem dL_acts_724 : decode cL_acts 724 = .ok (.aload 6, 2) := by decide +kernel
theorem dL_acts_726 : decode cL_acts 726 = .ok (.aload 7, 2) := by decide +kernel
theorem dL_acts_728 : decode cL_acts 728 = .ok (.aload 8, 2) := by decide +kernel
theorem dL_acts_730 : decode cL_acts 730 = .ok (.iconst 0, 1) := by decide +kernel
theorem dL_acts_731 : decode cL_acts 731 = .ok (.invokestatic 113, 3) := by decide +kernel
theorem dL_acts_734 : decode cL_acts 734 = .ok (.aload_n 1, 1) := by decide +kernel
theorem dL_acts_735 : decode cL_acts 735 = .ok (.aload_n 2, 1) := by decide +kernel
theorem dL_acts_736 : decode cL_acts 736 = .ok (.aload_n 3, 1) := by decide +kernel
theorem dL_acts_737 : decode cL_acts 737 = .ok (.aload 4, 2) := by decide +kernel
theorem dL_acts_739 : decode cL_acts 739 = .ok (.aload 6, 2) := by decide +kernel
theorem dL_acts_741 : decode cL_acts 741 = .ok (.aload 7, 2) := by decide +kernel
theorem dL_acts_743 : decode cL_acts 743 = .ok (.aload 8, 2) := by decide +kernel
theorem dL_acts_745 : decode cL_acts 745 = .ok (.iconst 1, 1) := by decide +kernel
theorem dL_acts_746 : decode cL_acts 746 = .ok (.invokestatic 113, 3) := by decide +kernel
theorem dL_acts_749 : decode cL_acts 749 = .ok (.iadd, 1) := by decide +kernel
theorem dL_acts_750 : decode cL_acts 750 = .ok (.aload_n 1, 1) := by decide +kernel
theorem dL_acts_751 : decode cL_acts 751 = .ok (.aload_n 2, 1) := by decide +kernel
theorem dL_acts_752 : decode cL_acts 752 = .ok (.aload_n 3, 1) := by decide +kernel
theorem dL_acts_753 : decode cL_acts 753 = .ok (.aload 4, 2) := by decide +kernel
theorem dL_acts_755 : decode cL_acts 755 = .ok (.aload 6, 2) := by decide +kernel
theorem dL_acts_757 : decode cL_acts 757 = .ok (.aload 7, 2) := by decide +kernel
theorem dL_acts_759 : decode cL_acts 759 = .ok (.aload 8, 2) := by decide +kernel
theorem dL_acts_761 : decode cL_acts 761 = .ok (.iconst 2, 1) := by decide +kernel
theorem dL_acts_762 : decode cL_acts 762 = .ok (.invokestatic 113, 3) := by decide +kernel
theorem dL_acts_765 : decode cL_acts 765 = .ok (.iadd, 1) := by decide +kernel
theorem dL_acts_766 : decode cL_acts 766 = .ok (.istore 15, 2) := by decide +kernel
theorem dL_acts_768 : decode cL_acts 768 = .ok (.iload 15, 2) := by decide +kernel
theorem dL_acts_770 : decode cL_acts 770 = .ok (.ifCond .le 7, 3) := by decide +kernel
theorem dL_acts_773 : decode cL_acts 773 = .ok (.iconst 1, 1) := by decide +kernel
theorem dL_acts_774 : decode cL_acts 774 = .ok (.goto 4, 3) := by decide +kernel
theorem dL_acts_777 : decode cL_acts 777 = .ok (.iconst 0, 1) := by decide +kernel
theorem dL_acts_778 : decode cL_acts 778 = .ok (.istore 14, 2) := by decide +kernel
theorem dL_acts_780 : decode cL_acts 780 = .ok (.iinc 13 1, 3) := by decide +kernel
theorem dL_acts_783 : decode cL_acts 783 = .ok (.goto (-76), 3) := by decide +kernel
theorem dL_acts_786 : decode cL_acts 786 = .ok (.aload_n 0, 1) := by decide +kernel
theorem dL_acts_787 : decode cL_acts 787 = .ok (.invokevirtual 116, 3) := by decide +kernel
theorem dL_acts_790 : decode cL_acts 790 = .ok (.iload 13, 2) := by decide +kernel
theorem dL_acts_792 : decode cL_acts 792 = .ok (.if_icmp .ne 7, 3) := by decide +kernel
theorem dL_acts_795 : decode cL_acts 795 = .ok (.iconst 1, 1) := by decide +kernel
theorem dL_acts_796 : decode cL_acts 796 = .ok (.goto 4, 3) := by decide +kernel
theorem dL_acts_799 : decode cL_acts 799 = .ok (.iconst 0, 1) := by decide +kernel
theorem dL_acts_800 : decode cL_acts 800 = .ok (.ireturn, 1) := by decide +kernel
theorem dL_acts_801 : decode cL_acts 801 = .ok (.iload 9, 2) := by decide +kernel
theorem dL_acts_803 : decode cL_acts 803 = .ok (.bipush 16, 2) := by decide +kernel
theorem dL_acts_805 : decode cL_acts 805 = .ok (.if_icmp .ge 34, 3) := by decide +kernel
theorem dL_acts_808 : decode cL_acts 808 = .ok (.aload_n 0, 1) := by decide +kernel
theorem dL_acts_809 : decode cL_acts 809 = .ok (.iload 12, 2) := by decide +kernel
theorem dL_acts_811 : decode cL_acts 811 = .ok (.invokevirtual 119, 3) := by decide +kernel
theorem dL_acts_814 : decode cL_acts 814 = .ok (.aload_n 1, 1) := by decide +kernel
theorem dL_acts_815 : decode cL_acts 815 = .ok (.aload_n 2, 1) := by decide +kernel
theorem dL_acts_816 : decode cL_acts 816 = .ok (.aload_n 3, 1) := by decide +kernel
