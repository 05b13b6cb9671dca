theorem dL_refuses_348 : decode cL_refuses 348 = .ok (.iconst 0, 1) := by decide +kernel
theorem dL_refuses_349 : decode cL_refuses 349 = .ok (.istore_n 3, 1) := by decide +kernel
theorem dL_refuses_350 : decode cL_refuses 350 = .ok (.iload_n 3, 1) := by decide +kernel
theorem dL_refuses_351 : decode cL_refuses 351 = .ok (.ifCond .eq 172, 3) := by decide +kernel
theorem dL_refuses_354 : decode cL_refuses 354 = .ok (.aload_n 0, 1) := by decide +kernel
theorem dL_refuses_355 : decode cL_refuses 355 = .ok (.bipush 14, 2) := by decide +kernel
theorem dL_refuses_357 : decode cL_refuses 357 = .ok (.iconst 4, 1) := by decide +kernel
theorem dL_refuses_358 : decode cL_refuses 358 = .ok (.iload_n 1, 1) := by decide +kernel
theorem dL_refuses_359 : decode cL_refuses 359 = .ok (.bipush 9, 2) := by decide +kernel
theorem dL_refuses_361 : decode cL_refuses 361 = .ok (.irem, 1) := by decide +kernel
theorem dL_refuses_362 : decode cL_refuses 362 = .ok (.iadd, 1) := by decide +kernel
theorem dL_refuses_363 : decode cL_refuses 363 = .ok (.iconst 0, 1) := by decide +kernel
theorem dL_refuses_364 : decode cL_refuses 364 = .ok (.iconst 0, 1) := by decide +kernel
theorem dL_refuses_365 : decode cL_refuses 365 = .ok (.invokestatic 150, 3) := by decide +kernel
theorem dL_refuses_368 : decode cL_refuses 368 = .ok (.ldc 15, 2) := by decide +kernel
theorem dL_refuses_370 : decode cL_refuses 370 = .ok (.if_icmp .ne 153, 3) := by decide +kernel
theorem dL_refuses_373 : decode cL_refuses 373 = .ok (.aload_n 0, 1) := by decide +kernel
theorem dL_refuses_374 : decode cL_refuses 374 = .ok (.bipush 15, 2) := by decide +kernel
theorem dL_refuses_376 : decode cL_refuses 376 = .ok (.iload_n 2, 1) := by decide +kernel
theorem dL_refuses_377 : decode cL_refuses 377 = .ok (.iconst 0, 1) := by decide +kernel
theorem dL_refuses_378 : decode cL_refuses 378 = .ok (.iconst 0, 1) := by decide +kernel
theorem dL_refuses_379 : decode cL_refuses 379 = .ok (.invokestatic 150, 3) := by decide +kernel
theorem dL_refuses_382 : decode cL_refuses 382 = .ok (.ldc 39, 2) := by decide +kernel
theorem dL_refuses_384 : decode cL_refuses 384 = .ok (.if_icmp .ne 139, 3) := by decide +kernel
theorem dL_refuses_387 : decode cL_refuses 387 = .ok (.aload_n 0, 1) := by decide +kernel
theorem dL_refuses_388 : decode cL_refuses 388 = .ok (.bipush 16, 2) := by decide +kernel
theorem dL_refuses_390 : decode cL_refuses 390 = .ok (.iconst 0, 1) := by decide +kernel
theorem dL_refuses_391 : decode cL_refuses 391 = .ok (.iload_n 2, 1) := by decide +kernel
theorem dL_refuses_392 : decode cL_refuses 392 = .ok (.iconst 0, 1) := by decide +kernel
theorem dL_refuses_393 : decode cL_refuses 393 = .ok (.invokestatic 150, 3) := by decide +kernel
theorem dL_refuses_396 : decode cL_refuses 396 = .ok (.ldc 39, 2) := by decide +kernel
theorem dL_refuses_398 : decode cL_refuses 398 = .ok (.if_icmp .ne 125, 3) := by decide +kernel
theorem dL_refuses_401 : decode cL_refuses 401 = .ok (.aload_n 0, 1) := by decide +kernel
theorem dL_refuses_402 : decode cL_refuses 402 = .ok (.bipush 16, 2) := by decide +kernel
theorem dL_refuses_404 : decode cL_refuses 404 = .ok (.iconst (-1), 1) := by decide +kernel
theorem dL_refuses_405 : decode cL_refuses 405 = .ok (.iconst 0, 1) := by decide +kernel
theorem dL_refuses_406 : decode cL_refuses 406 = .ok (.iconst 0, 1) := by decide +kernel
theorem dL_refuses_407 : decode cL_refuses 407 = .ok (.invokestatic 150, 3) := by decide +kernel
theorem dL_refuses_410 : decode cL_refuses 410 = .ok (.ldc 39, 2) := by decide +kernel
theorem dL_refuses_412 : decode cL_refuses 412 = .ok (.if_icmp .ne 111, 3) := by decide +kernel
theorem dL_refuses_415 : decode cL_refuses 415 = .ok (.aload_n 0, 1) := by decide +kernel
theorem dL_refuses_416 : decode cL_refuses 416 = .ok (.bipush 17, 2) := by decide +kernel
theorem dL_refuses_418 : decode cL_refuses 418 = .ok (.iconst 2, 1) := by decide +kernel
theorem dL_refuses_419 : decode cL_refuses 419 = .ok (.iconst 0, 1) := by decide +kernel
theorem dL_refuses_420 : decode cL_refuses 420 = .ok (.iconst 0, 1) := by decide +kernel
theorem dL_refuses_421 : decode cL_refuses 421 = .ok (.invokestatic 150, 3) := by decide +kernel
theorem dL_refuses_424 : decode cL_refuses 424 = .ok (.ldc 39, 2) := by decide +kernel
theorem dL_refuses_426 : decode cL_refuses 426 = .ok (.if_icmp .ne 97, 3) := by decide +kernel
theorem dL_refuses_429 : decode cL_refuses 429 = .ok (.aload_n 0, 1) := by decide +kernel
theorem dL_refuses_430 : decode cL_refuses 430 = .ok (.bipush 18, 2) := by decide +kernel
theorem dL_refuses_432 : decode cL_refuses 432 = .ok (.iconst (-1), 1) := by decide +kernel
theorem dL_refuses_433 : decode cL_refuses 433 = .ok (.iconst 0, 1) := by decide +kernel
theorem dL_refuses_434 : decode cL_refuses 434 = .ok (.iconst 0, 1) := by decide +kernel
theorem dL_refuses_435 : decode cL_refuses 435 = .ok (.invokestatic 150, 3) := by decide +kernel
theorem dL_refuses_438 : decode cL_refuses 438 = .ok (.ldc 39, 2) := by decide +kernel
theorem dL_refuses_440 : decode cL_refuses 440 = .ok (.if_icmp .ne 83, 3) := by decide +kernel
theorem dL_refuses_443 : decode cL_refuses 443 = .ok (.aload_n 0, 1) := by decide +kernel
theorem dL_refuses_444 : decode cL_refuses 444 = .ok (.iconst 0, 1) := by decide +kernel
theorem dL_refuses_445 : decode cL_refuses 445 = .ok (.sipush 256, 3) := by decide +kernel
theorem dL_refuses_448 : decode cL_refuses 448 = .ok (.iload_n 1, 1) := by decide +kernel
theorem dL_refuses_449 : decode cL_refuses 449 = .ok (.bipush 9, 2) := by decide +kernel
theorem dL_refuses_451 : decode cL_refuses 451 = .ok (.irem, 1) := by decide +kernel
theorem dL_refuses_452 : decode cL_refuses 452 = .ok (.iadd, 1) := by decide +kernel
theorem dL_refuses_453 : decode cL_refuses 453 = .ok (.iconst 0, 1) := by decide +kernel
theorem dL_refuses_454 : decode cL_refuses 454 = .ok (.iconst 0, 1) := by decide +kernel
theorem dL_refuses_455 : decode cL_refuses 455 = .ok (.invokestatic 150, 3) := by decide +kernel
theorem dL_refuses_458 : decode cL_refuses 458 = .ok (.ldc 15, 2) := by decide +kernel
theorem dL_refuses_460 : decode cL_refuses 460 = .ok (.if_icmp .ne 63, 3) := by decide +kernel
theorem dL_refuses_463 : decode cL_refuses 463 = .ok (.aload_n 0, 1) := by decide +kernel
theorem dL_refuses_464 : decode cL_refuses 464 = .ok (.iconst 4, 1) := by decide +kernel
theorem dL_refuses_465 : decode cL_refuses 465 = .ok (.lconst 0, 1) := by decide +kernel
theorem dL_refuses_466 : decode cL_refuses 466 = .ok (.invokestatic 154, 3) := by decide +kernel
theorem dL_refuses_469 : decode cL_refuses 469 = .ok (.ldc 15, 2) := by decide +kernel
theorem dL_refuses_471 : decode cL_refuses 471 = .ok (.if_icmp .ne 52, 3) := by decide +kernel
theorem dL_refuses_474 : decode cL_refuses 474 = .ok (.aload_n 0, 1) := by decide +kernel
theorem dL_refuses_475 : decode cL_refuses 475 = .ok (.iconst 1, 1) := by decide +kernel
theorem dL_refuses_476 : decode cL_refuses 476 = .ok (.ldc2_w 158, 3) := by decide +kernel
theorem dL_refuses_479 : decode cL_refuses 479 = .ok (.iload_n 1, 1) := by decide +kernel
theorem dL_refuses_480 : decode cL_refuses 480 = .ok (.i2l, 1) := by decide +kernel
theorem dL_refuses_481 : decode cL_refuses 481 = .ok (.ladd, 1) := by decide +kernel
theorem dL_refuses_482 : decode cL_refuses 482 = .ok (.invokestatic 154, 3) := by decide +kernel
theorem dL_refuses_485 : decode cL_refuses 485 = .ok (.ldc 15, 2) := by decide +kernel
theorem dL_refuses_487 : decode cL_refuses 487 = .ok (.if_icmp .ne 36, 3) := by decide +kernel
theorem dL_refuses_490 : decode cL_refuses 490 = .ok (.aload_n 0, 1) := by decide +kernel
theorem dL_refuses_491 : decode cL_refuses 491 = .ok (.iconst 2, 1) := by decide +kernel
theorem dL_refuses_492 : decode cL_refuses 492 = .ok (.ldc2_w 160, 3) := by decide +kernel
theorem dL_refuses_495 : decode cL_refuses 495 = .ok (.iload_n 1, 1) := by decide +kernel
theorem dL_refuses_496 : decode cL_refuses 496 = .ok (.i2l, 1) := by decide +kernel
theorem dL_refuses_497 : decode cL_refuses 497 = .ok (.lsub, 1) := by decide +kernel
theorem dL_refuses_498 : decode cL_refuses 498 = .ok (.invokestatic 154, 3) := by decide +kernel
theorem dL_refuses_501 : decode cL_refuses 501 = .ok (.ldc 15, 2) := by decide +kernel
theorem dL_refuses_503 : decode cL_refuses 503 = .ok (.if_icmp .ne 20, 3) := by decide +kernel
theorem dL_refuses_506 : decode cL_refuses 506 = .ok (.aload_n 0, 1) := by decide +kernel
theorem dL_refuses_507 : decode cL_refuses 507 = .ok (.iload_n 1, 1) := by decide +kernel
theorem dL_refuses_508 : decode cL_refuses 508 = .ok (.i2l, 1) := by decide +kernel
theorem dL_refuses_509 : decode cL_refuses 509 = .ok (.bipush 100, 2) := by decide +kernel
theorem dL_refuses_511 : decode cL_refuses 511 = .ok (.invokestatic 162, 3) := by decide +kernel
theorem dL_refuses_514 : decode cL_refuses 514 = .ok (.ldc 15, 2) := by decide +kernel
theorem dL_refuses_516 : decode cL_refuses 516 = .ok (.if_icmp .ne 7, 3) := by decide +kernel
theorem dL_refuses_519 : decode cL_refuses 519 = .ok (.iconst 1, 1) := by decide +kernel
theorem dL_refuses_520 : decode cL_refuses 520 = .ok (.goto 4, 3) := by decide +kernel
theorem dL_refuses_523 : decode cL_refuses 523 = .ok (.iconst 0, 1) := by decide +kernel
theorem dL_refuses_524 : decode cL_refuses 524 = .ok (.istore_n 3, 1) := by decide +kernel
theorem dL_refuses_525 : decode cL_refuses 525 = .ok (.aload_n 0, 1) := by decide +kernel
theorem dL_refuses_526 : decode cL_refuses 526 = .ok (.iconst 1, 1) := by decide +kernel
theorem dL_refuses_527 : decode cL_refuses 527 = .ok (.iconst 0, 1) := by decide +kernel
theorem dL_refuses_528 : decode cL_refuses 528 = .ok (.iconst 0, 1) := by decide +kernel
theorem dL_refuses_529 : decode cL_refuses 529 = .ok (.iconst 0, 1) := by decide +kernel
theorem dL_refuses_530 : decode cL_refuses 530 = .ok (.invokestatic 150, 3) := by decide +kernel
theorem dL_refuses_533 : decode cL_refuses 533 = .ok (.ifCond .ne 47, 3) := by decide +kernel
theorem dL_refuses_536 : decode cL_refuses 536 = .ok (.iload_n 3, 1) := by decide +kernel
theorem dL_refuses_537 : decode cL_refuses 537 = .ok (.ifCond .eq 41, 3) := by decide +kernel
theorem dL_refuses_540 : decode cL_refuses 540 = .ok (.aload_n 0, 1) := by decide +kernel
theorem dL_refuses_541 : decode cL_refuses 541 = .ok (.bipush 9, 2) := by decide +kernel
theorem dL_refuses_543 : decode cL_refuses 543 = .ok (.iload_n 1, 1) := by decide +kernel
theorem dL_refuses_544 : decode cL_refuses 544 = .ok (.bipush 10, 2) := by decide +kernel
theorem dL_refuses_546 : decode cL_refuses 546 = .ok (.irem, 1) := by decide +kernel
theorem dL_refuses_547 : decode cL_refuses 547 = .ok (.iconst 0, 1) := by decide +kernel
theorem dL_refuses_548 : decode cL_refuses 548 = .ok (.iconst 0, 1) := by decide +kernel
theorem dL_refuses_549 : decode cL_refuses 549 = .ok (.invokestatic 150, 3) := by decide +kernel
theorem dL_refuses_552 : decode cL_refuses 552 = .ok (.ldc 26, 2) := by decide +kernel
theorem dL_refuses_554 : decode cL_refuses 554 = .ok (.if_icmp .ne 24, 3) := by decide +kernel
theorem dL_refuses_557 : decode cL_refuses 557 = .ok (.aload_n 0, 1) := by decide +kernel
theorem dL_refuses_558 : decode cL_refuses 558 = .ok (.bipush 11, 2) := by decide +kernel
theorem dL_refuses_560 : decode cL_refuses 560 = .ok (.iload_n 1, 1) := by decide +kernel
theorem dL_refuses_561 : decode cL_refuses 561 = .ok (.bipush 10, 2) := by decide +kernel
theorem dL_refuses_563 : decode cL_refuses 563 = .ok (.irem, 1) := by decide +kernel
theorem dL_refuses_564 : decode cL_refuses 564 = .ok (.iconst 0, 1) := by decide +kernel
theorem dL_refuses_565 : decode cL_refuses 565 = .ok (.iconst 0, 1) := by decide +kernel
theorem dL_refuses_566 : decode cL_refuses 566 = .ok (.invokestatic 150, 3) := by decide +kernel
theorem dL_refuses_569 : decode cL_refuses 569 = .ok (.ldc 26, 2) := by decide +kernel
theorem dL_refuses_571 : decode cL_refuses 571 = .ok (.if_icmp .ne 7, 3) := by decide +kernel
theorem dL_refuses_574 : decode cL_refuses 574 = .ok (.iconst 1, 1) := by decide +kernel
theorem dL_refuses_575 : decode cL_refuses 575 = .ok (.goto 4, 3) := by decide +kernel
theorem dL_refuses_578 : decode cL_refuses 578 = .ok (.iconst 0, 1) := by decide +kernel
theorem dL_refuses_579 : decode cL_refuses 579 = .ok (.istore_n 3, 1) := by decide +kernel
theorem dL_refuses_580 : decode cL_refuses 580 = .ok (.iload_n 3, 1) := by decide +kernel
theorem dL_refuses_581 : decode cL_refuses 581 = .ok (.ifCond .eq 29, 3) := by decide +kernel
theorem dL_refuses_584 : decode cL_refuses 584 = .ok (.aload_n 0, 1) := by decide +kernel
theorem dL_refuses_585 : decode cL_refuses 585 = .ok (.invokevirtual 166, 3) := by decide +kernel
theorem dL_refuses_588 : decode cL_refuses 588 = .ok (.iconst (-1), 1) := by decide +kernel
theorem dL_refuses_589 : decode cL_refuses 589 = .ok (.if_icmp .eq 17, 3) := by decide +kernel
theorem dL_refuses_592 : decode cL_refuses 592 = .ok (.aload_n 0, 1) := by decide +kernel
theorem dL_refuses_593 : decode cL_refuses 593 = .ok (.bipush 8, 2) := by decide +kernel
theorem dL_refuses_595 : decode cL_refuses 595 = .ok (.iconst 0, 1) := by decide +kernel
theorem dL_refuses_596 : decode cL_refuses 596 = .ok (.iconst 0, 1) := by decide +kernel
theorem dL_refuses_597 : decode cL_refuses 597 = .ok (.iconst 0, 1) := by decide +kernel
theorem dL_refuses_598 : decode cL_refuses 598 = .ok (.invokestatic 150, 3) := by decide +kernel
theorem dL_refuses_601 : decode cL_refuses 601 = .ok (.ldc 26, 2) := by decide +kernel
theorem dL_refuses_603 : decode cL_refuses 603 = .ok (.if_icmp .ne 7, 3) := by decide +kernel
theorem dL_refuses_606 : decode cL_refuses 606 = .ok (.iconst 1, 1) := by decide +kernel
theorem dL_refuses_607 : decode cL_refuses 607 = .ok (.goto 4, 3) := by decide +kernel
theorem dL_refuses_610 : decode cL_refuses 610 = .ok (.iconst 0, 1) := by decide +kernel
theorem dL_refuses_611 : decode cL_refuses 611 = .ok (.ireturn, 1) := by decide +kernel
set_option maxRecDepth 20000 in
theorem ggL_alike_X6_errorPosition : GoodIn wsL_alike wsX6_errorPosition := goodIn_r _ [5, 6, 7, 8, 9, 10, 11, 12, 13, 14, 4, 15, 16, 17, 18, 507, 508, 509, 510, 511, 512, 513, 514] (by decide +kernel) (by decide +kernel)
set_option maxRecDepth 20000 in
theorem gL_alike_X6_errorPosition : GoodIn wsL_alike (wsV RL 166 RX6 yX6_errorPosition wsX6_errorPosition) := goodIn_app (goodIn_of _ (by decide +kernel)) ggL_alike_X6_errorPosition
set_option maxRecDepth 20000 in
theorem ggL_alike_X6_closest_p0 : GoodIn wsL_alike [.code yX6_closest cX6_closest 1 (some .int)] := goodIn_r _ [22] (by decide +kernel) (by decide +kernel)
theorem ggL_alike_X6_closest_p1 : GoodIn wsL_alike wsX6_closest_r1 := goodIn_r _ [23, 24, 25, 26, 27, 28, 29, 30, 31, 32, 33, 34, 35, 36, 37, 14, 4, 15, 38, 39, 40, 41, 42, 43] (by decide +kernel) (by decide +kernel)
theorem ggL_alike_X6_closest_p2 : GoodIn wsL_alike wsX6_closest_r2 := goodIn_r _ [44, 45, 46, 47, 48, 49, 50, 51, 52, 53, 54, 55, 56, 57, 58, 59, 60, 61, 62, 63, 64, 65, 66, 67] (by decide +kernel) (by decide +kernel)
theorem ggL_alike_X6_closest_p3 : GoodIn wsL_alike wsX6_closest_r3 := goodIn_r _ [68] (by decide +kernel) (by decide +kernel)
theorem ggL_alike_X6_closest_p4 : GoodIn wsL_alike wsX60 := goodIn_r _ [507, 508, 509, 510, 511, 512] (by decide +kernel) (by decide +kernel)
theorem ggL_alike_X6_closest_p5 : GoodIn wsL_alike wsX40 := goodIn_r _ [515, 516, 517, 518, 519, 520] (by decide +kernel) (by decide +kernel)
theorem ggL_alike_X6_closest_p6 : GoodIn wsL_alike wsX20 := goodIn_r _ [521, 522, 523, 524, 525, 526] (by decide +kernel) (by decide +kernel)
theorem ggL_alike_X6_closest_p7 : GoodIn wsL_alike wsX00 := goodIn_r _ [527, 528, 529, 530, 531] (by decide +kernel) (by decide +kernel)
theorem ggL_alike_X6_closest : GoodIn wsL_alike wsX6_closest := (goodIn_c2 ggL_alike_X6_closest_p0 (goodIn_app (goodIn_app (goodIn_app (goodIn_app (goodIn_app ggL_alike_X6_closest_p1 (goodIn_app ggL_alike_X6_closest_p2 ggL_alike_X6_closest_p3)) ggL_alike_X6_closest_p4) ggL_alike_X6_closest_p5) ggL_alike_X6_closest_p6) ggL_alike_X6_closest_p7))
set_option maxRecDepth 20000 in
theorem gL_alike_X6_closest : GoodIn wsL_alike (wsV RL 169 RX6 yX6_closest wsX6_closest) := goodIn_app (goodIn_of _ (by decide +kernel)) ggL_alike_X6_closest
set_option maxRecDepth 20000 in
theorem ggL_alike_X6_byOthers_p0 : GoodIn wsL_alike [.code yX6_byOthers cX6_byOthers 3 (some .int)] := goodIn_r _ [72] (by decide +kernel) (by decide +kernel)
theorem ggL_alike_X6_byOthers_p1 : GoodIn wsL_alike wsX6_byOthers_r1 := goodIn_r _ [24, 73, 23, 74, 75, 76, 77, 28, 78, 79, 80, 81, 30, 31, 82, 83, 38, 39, 40, 41, 42, 43, 44, 45] (by decide +kernel) (by decide +kernel)
theorem ggL_alike_X6_byOthers_p2 : GoodIn wsL_alike wsX6_byOthers_r2 := goodIn_r _ [46, 47, 48, 49, 50, 51, 52, 14, 4, 15, 53, 54, 55, 56, 57, 58, 59, 60, 61, 62, 63, 64, 65, 66] (by decide +kernel) (by decide +kernel)
theorem ggL_alike_X6_byOthers_p3 : GoodIn wsL_alike wsX6_byOthers_r3 := goodIn_r _ [67, 68, 84, 85, 86, 35, 87, 88, 89, 90, 91, 92, 32, 33, 34, 36, 37, 93] (by decide +kernel) (by decide +kernel)
theorem ggL_alike_X6_byOthers_p4 : GoodIn wsL_alike wsX60 := goodIn_r _ [507, 508, 509, 510, 511, 512] (by decide +kernel) (by decide +kernel)
theorem ggL_alike_X6_byOthers_p5 : GoodIn wsL_alike wsX40 := goodIn_r _ [515, 516, 517, 518, 519, 520] (by decide +kernel) (by decide +kernel)
theorem ggL_alike_X6_byOthers_p6 : GoodIn wsL_alike wsX20 := goodIn_r _ [521, 522, 523, 524, 525, 526] (by decide +kernel) (by decide +kernel)
theorem ggL_alike_X6_byOthers_p7 : GoodIn wsL_alike wsX00 := goodIn_r _ [527, 528, 529, 530, 531] (by decide +kernel) (by decide +kernel)
theorem ggL_alike_X6_byOthers : GoodIn wsL_alike wsX6_byOthers := (goodIn_c2 ggL_alike_X6_byOthers_p0 (goodIn_app (goodIn_app (goodIn_app (goodIn_app (goodIn_app ggL_alike_X6_byOthers_p1 (goodIn_app ggL_alike_X6_byOthers_p2 ggL_alike_X6_byOthers_p3)) ggL_alike_X6_byOthers_p4) ggL_alike_X6_byOthers_p5) ggL_alike_X6_byOthers_p6) ggL_alike_X6_byOthers_p7))
set_option maxRecDepth 20000 in
theorem gL_alike_X6_byOthers : GoodIn wsL_alike (wsV RL 172 RX6 yX6_byOthers wsX6_byOthers) := goodIn_app (goodIn_of _ (by decide +kernel)) ggL_alike_X6_byOthers
set_option maxRecDepth 20000 in
theorem ggL_alike_X6_mirrored_p0 : GoodIn wsL_alike [.code yX6_mirrored cX6_mirrored 1 (some .int)] := goodIn_r _ [97] (by decide +kernel) (by decide +kernel)
theorem ggL_alike_X6_mirrored_p1 : GoodIn wsL_alike wsX6_mirrored_r1 := goodIn_r _ [98, 24, 23, 74, 99, 100, 101, 35, 102, 103, 37, 88, 104, 105, 106, 107, 108, 109, 50, 110, 111, 112, 113, 52] (by decide +kernel) (by decide +kernel)
theorem ggL_alike_X6_mirrored_p2 : GoodIn wsL_alike wsX6_mirrored_r2 := goodIn_r _ [59, 114, 4, 115, 116, 44, 45, 46, 117, 118, 119, 120, 121, 122, 123, 124, 125, 126, 127, 128, 129, 130, 131, 132] (by decide +kernel) (by decide +kernel)
theorem ggL_alike_X6_mirrored_p3 : GoodIn wsL_alike wsX6_mirrored_r3 := goodIn_r _ [14, 15, 133, 134, 135, 136, 137, 138, 139, 140, 141, 142, 143, 144, 53, 54, 145, 85, 86, 87, 146, 147, 148, 149] (by decide +kernel) (by decide +kernel)
theorem ggL_alike_X6_mirrored_p4 : GoodIn wsL_alike wsX6_mirrored_r4 := goodIn_r _ [150, 151, 152, 153, 154, 155, 156, 157, 158, 159, 67, 68, 160, 161, 162, 163, 164, 165, 166, 167, 168, 48, 49, 51] (by decide +kernel) (by decide +kernel)
theorem ggL_alike_X6_mirrored_p5 : GoodIn wsL_alike wsX6_mirrored_r5 := goodIn_r _ [169, 170, 171, 172, 173, 174, 175, 75, 76, 77, 28, 78, 79, 80, 81, 30, 31, 82, 83, 38, 39, 40, 41, 42] (by decide +kernel) (by decide +kernel)
theorem ggL_alike_X6_mirrored_p6 : GoodIn wsL_alike wsX6_mirrored_r6 := goodIn_r _ [43, 47, 55, 56, 57, 58, 60, 61, 62, 63, 64, 65, 66, 84, 89, 90, 91, 92, 32, 33, 34, 36] (by decide +kernel) (by decide +kernel)
theorem ggL_alike_X6_mirrored_p7 : GoodIn wsL_alike wsX60 := goodIn_r _ [507, 508, 509, 510, 511, 512] (by decide +kernel) (by decide +kernel)
theorem ggL_alike_X6_mirrored_p8 : GoodIn wsL_alike wsX20 := goodIn_r _ [521, 522, 523, 524, 525, 526] (by decide +kernel) (by decide +kernel)
theorem ggL_alike_X6_mirrored_p9 : GoodIn wsL_alike wsX40 := goodIn_r _ [515, 516, 517, 518, 519, 520] (by decide +kernel) (by decide +kernel)
theorem ggL_alike_X6_mirrored_p10 : GoodIn wsL_alike wsX00 := goodIn_r _ [527, 528, 529, 530, 531] (by decide +kernel) (by decide +kernel)
theorem ggL_alike_X6_mirrored : GoodIn wsL_alike wsX6_mirrored := (goodIn_c2 ggL_alike_X6_mirrored_p0 (goodIn_app (goodIn_app (goodIn_app (goodIn_app (goodIn_app ggL_alike_X6_mirrored_p1 (goodIn_app ggL_alike_X6_mirrored_p2 (goodIn_app ggL_alike_X6_mirrored_p3 (goodIn_app ggL_alike_X6_mirrored_p4 (goodIn_app ggL_alike_X6_mirrored_p5 ggL_alike_X6_mirrored_p6))))) ggL_alike_X6_mirrored_p7) ggL_alike_X6_mirrored_p8) ggL_alike_X6_mirrored_p9) ggL_alike_X6_mirrored_p10))
set_option maxRecDepth 20000 in
theorem gL_alike_X6_mirrored : GoodIn wsL_alike (wsV RL 175 RX6 yX6_mirrored wsX6_mirrored) := goodIn_app (goodIn_of _ (by decide +kernel)) ggL_alike_X6_mirrored
set_option maxRecDepth 20000 in
theorem ggL_alike_L_call_p0 : GoodIn wsL_alike [.code yL_call cL_call 5 (some .int)] := goodIn_r _ [179] (by decide +kernel) (by decide +kernel)
set_option maxRecDepth 20000 in
theorem ggL_alike_L_call_p1 : GoodIn wsL_alike wsL_call_r1 := goodIn_r _ [180, 181, 178, 182, 183, 184, 185, 186, 187, 188, 189, 4, 190, 191, 192, 193, 194, 6, 195, 196, 197, 198, 10, 199] (by decide +kernel) (by decide +kernel)
set_option maxRecDepth 20000 in
theorem ggL_alike_L_call_p2 : GoodIn wsL_alike wsL_call_r2 := goodIn_r _ [13, 12, 53, 54, 200, 201, 202, 203, 204, 205, 206, 24, 207, 208, 73, 209, 130, 131, 50, 132, 111, 14, 15, 210] (by decide +kernel) (by decide +kernel)
set_option maxRecDepth 20000 in
theorem ggL_alike_L_call_p3 : GoodIn wsL_alike wsL_call_r3 := goodIn_r _ [211, 212, 213, 129, 133, 134, 135, 136, 112, 214, 48, 49, 51, 52, 215, 216, 217, 35, 218, 219, 220, 221, 222, 104] (by decide +kernel) (by decide +kernel)
set_option maxRecDepth 20000 in
theorem ggL_alike_L_call_p4 : GoodIn wsL_alike wsL_call_r4 := goodIn_r _ [223, 224, 225, 226, 227, 228, 229, 230, 56, 57, 58, 59, 231, 232, 233, 234, 235, 236, 237, 238, 239, 240, 241, 242] (by decide +kernel) (by decide +kernel)
set_option maxRecDepth 20000 in
theorem ggL_alike_L_call_p5 : GoodIn wsL_alike wsL_call_r5 := goodIn_r _ [243, 244, 245, 105, 93, 33, 34, 36, 37, 246, 247, 248, 249, 250, 251, 252, 253, 254, 255, 256, 257, 258, 259, 260] (by decide +kernel) (by decide +kernel)
set_option maxRecDepth 20000 in
theorem ggL_alike_L_call_p6 : GoodIn wsL_alike wsL_call_r6 := goodIn_r _ [261, 262, 263, 264, 265, 266, 267, 268, 269, 270, 271, 85, 86, 87, 88, 272, 273, 274, 275, 276, 277, 278, 279, 280] (by decide +kernel) (by decide +kernel)
set_option maxRecDepth 20000 in
theorem ggL_alike_L_call_p7 : GoodIn wsL_alike wsL_call_r7 := goodIn_r _ [281, 282, 283, 284, 285, 286, 287, 288, 289, 290, 291, 292, 293, 294, 295, 296, 297, 298, 299, 300, 301, 302, 303, 304] (by decide +kernel) (by decide +kernel)
set_option maxRecDepth 20000 in
theorem ggL_alike_L_call_p8 : GoodIn wsL_alike wsL_call_r8 := goodIn_r _ [103, 305, 306, 307, 308, 113, 309, 100, 101, 102, 106, 107, 108, 109, 110, 114, 115, 116, 44, 45, 46, 117, 118, 119] (by decide +kernel) (by decide +kernel)
set_option maxRecDepth 20000 in
theorem ggL_alike_L_call_p9 : GoodIn wsL_alike wsL_call_r9 := goodIn_r _ [120, 310, 311, 312, 313, 145, 314, 315, 316, 317, 137, 138, 139, 140, 168, 153, 154, 155, 156, 157, 158, 159, 67, 68] (by decide +kernel) (by decide +kernel)
set_option maxRecDepth 20000 in
theorem ggL_alike_L_call_p10 : GoodIn wsL_alike wsL_call_r10 := goodIn_r _ [141, 142, 143, 144, 169, 170, 171, 172, 173, 174, 175, 164, 165, 166, 167, 318, 319, 320, 321, 322, 323, 324, 325, 326] (by decide +kernel) (by decide +kernel)
set_option maxRecDepth 20000 in
theorem ggL_alike_L_call_p11 : GoodIn wsL_alike wsL_call_r11 := goodIn_r _ [327, 328, 329, 330, 331, 332, 333, 334, 98, 7, 8, 9, 11, 16, 17, 18, 99, 335, 336, 337, 338, 339, 340, 341] (by decide +kernel) (by decide +kernel)
set_option maxRecDepth 20000 in
theorem ggL_alike_L_call_p12 : GoodIn wsL_alike wsL_call_r12 := goodIn_r _ [342, 343, 344, 345, 346, 347, 348, 349, 350, 351, 352, 353, 354, 355, 356, 357, 358, 359, 360, 361, 362, 363, 364, 365] (by decide +kernel) (by decide +kernel)
set_option maxRecDepth 20000 in
theorem ggL_alike_L_call_p13 : GoodIn wsL_alike wsL_call_r13 := goodIn_r _ [366, 367, 368, 369, 370, 371, 372, 373, 374, 375, 376, 377, 378, 379, 380, 381, 382, 383, 384, 385, 386, 387, 388, 389] (by decide +kernel) (by decide +kernel)
set_option maxRecDepth 20000 in
theorem ggL_alike_L_call_p14 : GoodIn wsL_alike wsL_call_r14 := goodIn_r _ [390, 391, 392, 393, 394, 395, 396, 397, 398, 399, 400, 401, 402, 403, 404, 405, 406, 407, 408, 409, 410, 23, 411, 74] (by decide +kernel) (by decide +kernel)
set_option maxRecDepth 20000 in
theorem ggL_alike_L_call_p15 : GoodIn wsL_alike wsL_call_r15 := goodIn_r _ [75, 76, 77, 28, 78, 79, 80, 81, 30, 31, 82, 83, 38, 39, 40, 41, 42, 43, 47, 55, 60, 61, 62, 63] (by decide +kernel) (by decide +kernel)
set_option maxRecDepth 20000 in
theorem ggL_alike_L_call_p16 : GoodIn wsL_alike wsL_call_r16 := goodIn_r _ [64, 65, 66, 84, 89, 90, 91, 92, 32, 412, 413, 414, 415, 416, 417, 418, 419, 420, 421, 422, 423, 424, 425, 426] (by decide +kernel) (by decide +kernel)
set_option maxRecDepth 20000 in
theorem ggL_alike_L_call_p17 : GoodIn wsL_alike wsL_call_r17 := goodIn_r _ [427, 428, 429, 430, 431, 432, 433, 146, 147, 148, 149, 150, 151, 152, 160, 161, 162, 163, 434, 435, 436, 437, 438, 439] (by decide +kernel) (by decide +kernel)
set_option maxRecDepth 20000 in
theorem ggL_alike_L_call_p18 : GoodIn wsL_alike wsL_call_r18 := goodIn_r _ [440, 441, 442, 443, 444, 445, 446, 447, 448, 449, 450, 451, 452, 453, 454, 455, 456, 457, 458, 459, 460, 461, 462, 463] (by decide +kernel) (by decide +kernel)
set_option maxRecDepth 20000 in
theorem ggL_alike_L_call_p19 : GoodIn wsL_alike wsL_call_r19 := goodIn_r _ [464, 465, 466, 467, 468, 469, 470, 471, 472, 473, 474, 475, 476, 477, 478, 479, 480, 481, 482, 483, 484, 485, 486, 487] (by decide +kernel) (by decide +kernel)
set_option maxRecDepth 20000 in
theorem ggL_alike_L_call_p20 : GoodIn wsL_alike wsL_call_r20 := goodIn_r _ [488, 489, 490, 491, 492, 493, 494, 495, 496, 497, 498, 499, 500, 501, 502, 503, 504, 505, 506] (by decide +kernel) (by decide +kernel)
set_option maxRecDepth 20000 in
theorem ggL_alike_L_call_p21 : GoodIn wsL_alike wsX60 := goodIn_r _ [507, 508, 509, 510, 511, 512] (by decide +kernel) (by decide +kernel)
set_option maxRecDepth 20000 in
theorem ggL_alike_L_call_p22 : GoodIn wsL_alike wsX50 := goodIn_r _ [513, 514] (by decide +kernel) (by decide +kernel)
set_option maxRecDepth 20000 in
theorem ggL_alike_L_call_p23 : GoodIn wsL_alike wsX40 := goodIn_r _ [515, 516, 517, 518, 519, 520] (by decide +kernel) (by decide +kernel)
set_option maxRecDepth 20000 in
theorem ggL_alike_L_call_p24 : GoodIn wsL_alike wsX00 := goodIn_r _ [527, 528, 529, 530, 531] (by decide +kernel) (by decide +kernel)
set_option maxRecDepth 20000 in
theorem ggL_alike_L_call_p25 : GoodIn wsL_alike wsX10 := goodIn_r _ [532, 533, 534] (by decide +kernel) (by decide +kernel)
set_option maxRecDepth 20000 in
theorem ggL_alike_L_call_p26 : GoodIn wsL_alike wsX30 := goodIn_r _ [535] (by decide +kernel) (by decide +kernel)
set_option maxRecDepth 20000 in
theorem ggL_alike_L_call_p27 : GoodIn wsL_alike wsX20 := goodIn_r _ [521, 522, 523, 524, 525, 526] (by decide +kernel) (by decide +kernel)
set_option maxRecDepth 20000 in
theorem ggL_alike_L_call : GoodIn wsL_alike wsL_call := goodIn_ca (goodIn_ca (goodIn_ca (goodIn_c2 ggL_alike_L_call_p0 (goodIn_app (goodIn_app (goodIn_app (goodIn_app (goodIn_app (goodIn_app (goodIn_app (goodIn_app ggL_alike_L_call_p1 (goodIn_app ggL_alike_L_call_p2 (goodIn_app ggL_alike_L_call_p3 (goodIn_app ggL_alike_L_call_p4 (goodIn_app ggL_alike_L_call_p5 (goodIn_app ggL_alike_L_call_p6 (goodIn_app ggL_alike_L_call_p7 (goodIn_app ggL_alike_L_call_p8 (goodIn_app ggL_alike_L_call_p9 (goodIn_app ggL_alike_L_call_p10 (goodIn_app ggL_alike_L_call_p11 (goodIn_app ggL_alike_L_call_p12 (goodIn_app ggL_alike_L_call_p13 (goodIn_app ggL_alike_L_call_p14 (goodIn_app ggL_alike_L_call_p15 (goodIn_app ggL_alike_L_call_p16 (goodIn_app ggL_alike_L_call_p17 (goodIn_app ggL_alike_L_call_p18 (goodIn_app ggL_alike_L_call_p19 ggL_alike_L_call_p20))))))))))))))))))) ggL_alike_L_call_p21) ggL_alike_L_call_p22) ggL_alike_L_call_p23) ggL_alike_L_call_p24) ggL_alike_L_call_p25) ggL_alike_L_call_p26) ggL_alike_L_call_p27)) (goodIn_sub (fun _ h => List.mem_cons_of_mem _ (List.mem_append_left _ (List.mem_append_left _ (List.mem_append_right _ h)))) (by decide +kernel))) (goodIn_sub (fun _ h => List.mem_cons_of_mem _ (List.mem_append_left _ (List.mem_append_right _ h))) (by decide +kernel))) (goodIn_sub (fun _ h => List.mem_cons_of_mem _ (List.mem_append_right _ h)) (by decide +kernel))
set_option maxRecDepth 20000 in
theorem gL_alike_L_call : GoodIn wsL_alike (va_wsS RL 150 yL_call wsL_call) := goodIn_app (goodIn_of _ (by decide +kernel)) ggL_alike_L_call
theorem dL_alike_0 : decode cL_alike 0 = .ok (.aload_n 0, 1) := by decide +kernel
theorem dL_alike_1 : decode cL_alike 1 = .ok (.invokevirtual 166, 3) := by decide +kernel
theorem dL_alike_4 : decode cL_alike 4 = .ok (.aload_n 1, 1) := by decide +kernel
theorem dL_alike_5 : decode cL_alike 5 = .ok (.invokevirtual 166, 3) := by decide +kernel
theorem dL_alike_8 : decode cL_alike 8 = .ok (.if_icmp .ne 40, 3) := by decide +kernel
theorem dL_alike_11 : decode cL_alike 11 = .ok (.aload_n 0, 1) := by decide +kernel
theorem dL_alike_12 : decode cL_alike 12 = .ok (.invokevirtual 169, 3) := by decide +kernel
theorem dL_alike_15 : decode cL_alike 15 = .ok (.aload_n 1, 1) := by decide +kernel
theorem dL_alike_16 : decode cL_alike 16 = .ok (.invokevirtual 169, 3) := by decide +kernel
theorem dL_alike_19 : decode cL_alike 19 = .ok (.if_icmp .ne 29, 3) := by decide +kernel
theorem dL_alike_22 : decode cL_alike 22 = .ok (.aload_n 0, 1) := by decide +kernel
theorem dL_alike_23 : decode cL_alike 23 = .ok (.invokevirtual 172, 3) := by decide +kernel
theorem dL_alike_26 : decode cL_alike 26 = .ok (.aload_n 1, 1) := by decide +kernel
theorem dL_alike_27 : decode cL_alike 27 = .ok (.invokevirtual 172, 3) := by decide +kernel
theorem dL_alike_30 : decode cL_alike 30 = .ok (.if_icmp .ne 18, 3) := by decide +kernel
theorem dL_alike_33 : decode cL_alike 33 = .ok (.aload_n 0, 1) := by decide +kernel
theorem dL_alike_34 : decode cL_alike 34 = .ok (.invokevirtual 175, 3) := by decide +kernel
theorem dL_alike_37 : decode cL_alike 37 = .ok (.aload_n 1, 1) := by decide +kernel
theorem dL_alike_38 : decode cL_alike 38 = .ok (.invokevirtual 175, 3) := by decide +kernel
theorem dL_alike_41 : decode cL_alike 41 = .ok (.if_icmp .ne 7, 3) := by decide +kernel
theorem dL_alike_44 : decode cL_alike 44 = .ok (.iconst 1, 1) := by decide +kernel
theorem dL_alike_45 : decode cL_alike 45 = .ok (.goto 4, 3) := by decide +kernel
theorem dL_alike_48 : decode cL_alike 48 = .ok (.iconst 0, 1) := by decide +kernel
theorem dL_alike_49 : decode cL_alike 49 = .ok (.istore_n 3, 1) := by decide +kernel
theorem dL_alike_50 : decode cL_alike 50 = .ok (.iconst 0, 1) := by decide +kernel
theorem dL_alike_51 : decode cL_alike 51 = .ok (.istore 4, 2) := by decide +kernel
theorem dL_alike_53 : decode cL_alike 53 = .ok (.iload 4, 2) := by decide +kernel
theorem dL_alike_55 : decode cL_alike 55 = .ok (.bipush 8, 2) := by decide +kernel
theorem dL_alike_57 : decode cL_alike 57 = .ok (.if_icmp .ge 86, 3) := by decide +kernel
theorem dL_alike_60 : decode cL_alike 60 = .ok (.iload_n 3, 1) := by decide +kernel
theorem dL_alike_61 : decode cL_alike 61 = .ok (.ifCond .eq 82, 3) := by decide +kernel
theorem dL_alike_64 : decode cL_alike 64 = .ok (.aload_n 0, 1) := by decide +kernel
theorem dL_alike_65 : decode cL_alike 65 = .ok (.iconst 1, 1) := by decide +kernel
theorem dL_alike_66 : decode cL_alike 66 = .ok (.iload 4, 2) := by decide +kernel
theorem dL_alike_68 : decode cL_alike 68 = .ok (.iconst 0, 1) := by decide +kernel
theorem dL_alike_69 : decode cL_alike 69 = .ok (.iconst 0, 1) := by decide +kernel
theorem dL_alike_70 : decode cL_alike 70 = .ok (.invokestatic 150, 3) := by decide +kernel
theorem dL_alike_73 : decode cL_alike 73 = .ok (.aload_n 1, 1) := by decide +kernel
theorem dL_alike_74 : decode cL_alike 74 = .ok (.iconst 1, 1) := by decide +kernel
theorem dL_alike_75 : decode cL_alike 75 = .ok (.iload 4, 2) := by decide +kernel
theorem dL_alike_77 : decode cL_alike 77 = .ok (.iconst 0, 1) := by decide +kernel
theorem dL_alike_78 : decode cL_alike 78 = .ok (.iconst 0, 1) := by decide +kernel
theorem dL_alike_79 : decode cL_alike 79 = .ok (.invokestatic 150, 3) := by decide +kernel
theorem dL_alike_82 : decode cL_alike 82 = .ok (.if_icmp .ne 53, 3) := by decide +kernel
theorem dL_alike_85 : decode cL_alike 85 = .ok (.aload_n 0, 1) := by decide +kernel
theorem dL_alike_86 : decode cL_alike 86 = .ok (.bipush 14, 2) := by decide +kernel
theorem dL_alike_88 : decode cL_alike 88 = .ok (.iload 4, 2) := by decide +kernel
theorem dL_alike_90 : decode cL_alike 90 = .ok (.iconst 0, 1) := by decide +kernel
theorem dL_alike_91 : decode cL_alike 91 = .ok (.iconst 0, 1) := by decide +kernel
theorem dL_alike_92 : decode cL_alike 92 = .ok (.invokestatic 150, 3) := by decide +kernel
theorem dL_alike_95 : decode cL_alike 95 = .ok (.aload_n 1, 1) := by decide +kernel
theorem dL_alike_96 : decode cL_alike 96 = .ok (.bipush 14, 2) := by decide +kernel
theorem dL_alike_98 : decode cL_alike 98 = .ok (.iload 4, 2) := by decide +kernel
theorem dL_alike_100 : decode cL_alike 100 = .ok (.iconst 0, 1) := by decide +kernel
theorem dL_alike_101 : decode cL_alike 101 = .ok (.iconst 0, 1) := by decide +kernel
theorem dL_alike_102 : decode cL_alike 102 = .ok (.invokestatic 150, 3) := by decide +kernel
theorem dL_alike_105 : decode cL_alike 105 = .ok (.if_icmp .ne 30, 3) := by decide +kernel
theorem dL_alike_108 : decode cL_alike 108 = .ok (.aload_n 0, 1) := by decide +kernel
theorem dL_alike_109 : decode cL_alike 109 = .ok (.bipush 6, 2) := by decide +kernel
theorem dL_alike_111 : decode cL_alike 111 = .ok (.iload 4, 2) := by decide +kernel
theorem dL_alike_113 : decode cL_alike 113 = .ok (.iconst 0, 1) := by decide +kernel
theorem dL_alike_114 : decode cL_alike 114 = .ok (.iconst 0, 1) := by decide +kernel
theorem dL_alike_115 : decode cL_alike 115 = .ok (.invokestatic 150, 3) := by decide +kernel
theorem dL_alike_118 : decode cL_alike 118 = .ok (.aload_n 1, 1) := by decide +kernel
theorem dL_alike_119 : decode cL_alike 119 = .ok (.bipush 6, 2) := by decide +kernel
theorem dL_alike_121 : decode cL_alike 121 = .ok (.iload 4, 2) := by decide +kernel
theorem dL_alike_123 : decode cL_alike 123 = .ok (.iconst 0, 1) := by decide +kernel
theorem dL_alike_124 : decode cL_alike 124 = .ok (.iconst 0, 1) := by decide +kernel
theorem dL_alike_125 : decode cL_alike 125 = .ok (.invokestatic 150, 3) := by decide +kernel
theorem dL_alike_128 : decode cL_alike 128 = .ok (.if_icmp .ne 7, 3) := by decide +kernel
theorem dL_alike_131 : decode cL_alike 131 = .ok (.iconst 1, 1) := by decide +kernel
theorem dL_alike_132 : decode cL_alike 132 = .ok (.goto 4, 3) := by decide +kernel
theorem dL_alike_135 : decode cL_alike 135 = .ok (.iconst 0, 1) := by decide +kernel
theorem dL_alike_136 : decode cL_alike 136 = .ok (.istore_n 3, 1) := by decide +kernel
theorem dL_alike_137 : decode cL_alike 137 = .ok (.iinc 4 1, 3) := by decide +kernel
theorem dL_alike_140 : decode cL_alike 140 = .ok (.goto (-87), 3) := by decide +kernel
theorem dL_alike_143 : decode cL_alike 143 = .ok (.aload_n 0, 1) := by decide +kernel
theorem dL_alike_144 : decode cL_alike 144 = .ok (.iconst 1, 1) := by decide +kernel
theorem dL_alike_145 : decode cL_alike 145 = .ok (.iconst 4, 1) := by decide +kernel
theorem dL_alike_146 : decode cL_alike 146 = .ok (.iconst 0, 1) := by decide +kernel
theorem dL_alike_147 : decode cL_alike 147 = .ok (.iconst 0, 1) := by decide +kernel
