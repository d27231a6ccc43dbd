theorem dL_profiles_331 : decode cL_profiles 331 = .ok (.iload_n 2, 1) := by decide +kernel
theorem dL_profiles_332 : decode cL_profiles 332 = .ok (.bipush 7, 2) := by decide +kernel
theorem dL_profiles_334 : decode cL_profiles 334 = .ok (.ishr, 1) := by decide +kernel
theorem dL_profiles_335 : decode cL_profiles 335 = .ok (.sipush 256, 3) := by decide +kernel
theorem dL_profiles_338 : decode cL_profiles 338 = .ok (.iload 11, 2) := by decide +kernel
theorem dL_profiles_340 : decode cL_profiles 340 = .ok (.isub, 1) := by decide +kernel
theorem dL_profiles_341 : decode cL_profiles 341 = .ok (.invokestatic 91, 3) := by decide +kernel
theorem dL_profiles_344 : decode cL_profiles 344 = .ok (.iadd, 1) := by decide +kernel
theorem dL_profiles_345 : decode cL_profiles 345 = .ok (.istore 12, 2) := by decide +kernel
theorem dL_profiles_347 : decode cL_profiles 347 = .ok (.iload 9, 2) := by decide +kernel
theorem dL_profiles_349 : decode cL_profiles 349 = .ok (.ifCond .eq 13, 3) := by decide +kernel
theorem dL_profiles_352 : decode cL_profiles 352 = .ok (.iload 8, 2) := by decide +kernel
theorem dL_profiles_354 : decode cL_profiles 354 = .ok (.iconst 3, 1) := by decide +kernel
theorem dL_profiles_355 : decode cL_profiles 355 = .ok (.if_icmp .ge 7, 3) := by decide +kernel
theorem dL_profiles_358 : decode cL_profiles 358 = .ok (.iconst 1, 1) := by decide +kernel
theorem dL_profiles_359 : decode cL_profiles 359 = .ok (.goto 4, 3) := by decide +kernel
theorem dL_profiles_362 : decode cL_profiles 362 = .ok (.iconst 0, 1) := by decide +kernel
theorem dL_profiles_363 : decode cL_profiles 363 = .ok (.istore 9, 2) := by decide +kernel
theorem dL_profiles_365 : decode cL_profiles 365 = .ok (.iload 9, 2) := by decide +kernel
theorem dL_profiles_367 : decode cL_profiles 367 = .ok (.ifCond .ne 8, 3) := by decide +kernel
theorem dL_profiles_370 : decode cL_profiles 370 = .ok (.bipush (-101), 2) := by decide +kernel
theorem dL_profiles_372 : decode cL_profiles 372 = .ok (.goto 59, 3) := by decide +kernel
theorem dL_profiles_375 : decode cL_profiles 375 = .ok (.iload 12, 2) := by decide +kernel
theorem dL_profiles_377 : decode cL_profiles 377 = .ok (.iload 11, 2) := by decide +kernel
theorem dL_profiles_379 : decode cL_profiles 379 = .ok (.if_icmp .lt 11, 3) := by decide +kernel
theorem dL_profiles_382 : decode cL_profiles 382 = .ok (.iload 12, 2) := by decide +kernel
theorem dL_profiles_384 : decode cL_profiles 384 = .ok (.sipush 255, 3) := by decide +kernel
theorem dL_profiles_387 : decode cL_profiles 387 = .ok (.if_icmp .le 8, 3) := by decide +kernel
theorem dL_profiles_390 : decode cL_profiles 390 = .ok (.bipush (-102), 2) := by decide +kernel
theorem dL_profiles_392 : decode cL_profiles 392 = .ok (.goto 39, 3) := by decide +kernel
theorem dL_profiles_395 : decode cL_profiles 395 = .ok (.iload 10, 2) := by decide +kernel
theorem dL_profiles_397 : decode cL_profiles 397 = .ok (.ifCond .ne 8, 3) := by decide +kernel
theorem dL_profiles_400 : decode cL_profiles 400 = .ok (.bipush (-103), 2) := by decide +kernel
theorem dL_profiles_402 : decode cL_profiles 402 = .ok (.goto 29, 3) := by decide +kernel
theorem dL_profiles_405 : decode cL_profiles 405 = .ok (.aload 5, 2) := by decide +kernel
theorem dL_profiles_407 : decode cL_profiles 407 = .ok (.bipush 9, 2) := by decide +kernel
theorem dL_profiles_409 : decode cL_profiles 409 = .ok (.iconst 3, 1) := by decide +kernel
theorem dL_profiles_410 : decode cL_profiles 410 = .ok (.iload 7, 2) := by decide +kernel
theorem dL_profiles_412 : decode cL_profiles 412 = .ok (.imul, 1) := by decide +kernel
theorem dL_profiles_413 : decode cL_profiles 413 = .ok (.iadd, 1) := by decide +kernel
theorem dL_profiles_414 : decode cL_profiles 414 = .ok (.iload 8, 2) := by decide +kernel
theorem dL_profiles_416 : decode cL_profiles 416 = .ok (.iadd, 1) := by decide +kernel
theorem dL_profiles_417 : decode cL_profiles 417 = .ok (.iaload, 1) := by decide +kernel
theorem dL_profiles_418 : decode cL_profiles 418 = .ok (.aload 5, 2) := by decide +kernel
theorem dL_profiles_420 : decode cL_profiles 420 = .ok (.iconst 3, 1) := by decide +kernel
theorem dL_profiles_421 : decode cL_profiles 421 = .ok (.iload 7, 2) := by decide +kernel
theorem dL_profiles_423 : decode cL_profiles 423 = .ok (.imul, 1) := by decide +kernel
theorem dL_profiles_424 : decode cL_profiles 424 = .ok (.iload 8, 2) := by decide +kernel
theorem dL_profiles_426 : decode cL_profiles 426 = .ok (.iadd, 1) := by decide +kernel
theorem dL_profiles_427 : decode cL_profiles 427 = .ok (.iaload, 1) := by decide +kernel
theorem dL_profiles_428 : decode cL_profiles 428 = .ok (.isub, 1) := by decide +kernel
theorem dL_profiles_429 : decode cL_profiles 429 = .ok (.iconst 1, 1) := by decide +kernel
theorem dL_profiles_430 : decode cL_profiles 430 = .ok (.iadd, 1) := by decide +kernel
theorem dL_profiles_431 : decode cL_profiles 431 = .ok (.istore 13, 2) := by decide +kernel
theorem dL_profiles_433 : decode cL_profiles 433 = .ok (.iload 13, 2) := by decide +kernel
theorem dL_profiles_435 : decode cL_profiles 435 = .ok (.ifCond .lt 30, 3) := by decide +kernel
theorem dL_profiles_438 : decode cL_profiles 438 = .ok (.aload 5, 2) := by decide +kernel
theorem dL_profiles_440 : decode cL_profiles 440 = .ok (.iconst 3, 1) := by decide +kernel
theorem dL_profiles_441 : decode cL_profiles 441 = .ok (.iload 7, 2) := by decide +kernel
theorem dL_profiles_443 : decode cL_profiles 443 = .ok (.imul, 1) := by decide +kernel
theorem dL_profiles_444 : decode cL_profiles 444 = .ok (.iload 8, 2) := by decide +kernel
theorem dL_profiles_446 : decode cL_profiles 446 = .ok (.iadd, 1) := by decide +kernel
theorem dL_profiles_447 : decode cL_profiles 447 = .ok (.iload 11, 2) := by decide +kernel
theorem dL_profiles_449 : decode cL_profiles 449 = .ok (.iastore, 1) := by decide +kernel
theorem dL_profiles_450 : decode cL_profiles 450 = .ok (.aload 5, 2) := by decide +kernel
theorem dL_profiles_452 : decode cL_profiles 452 = .ok (.bipush 9, 2) := by decide +kernel
theorem dL_profiles_454 : decode cL_profiles 454 = .ok (.iconst 3, 1) := by decide +kernel
theorem dL_profiles_455 : decode cL_profiles 455 = .ok (.iload 7, 2) := by decide +kernel
theorem dL_profiles_457 : decode cL_profiles 457 = .ok (.imul, 1) := by decide +kernel
theorem dL_profiles_458 : decode cL_profiles 458 = .ok (.iadd, 1) := by decide +kernel
theorem dL_profiles_459 : decode cL_profiles 459 = .ok (.iload 8, 2) := by decide +kernel
theorem dL_profiles_461 : decode cL_profiles 461 = .ok (.iadd, 1) := by decide +kernel
theorem dL_profiles_462 : decode cL_profiles 462 = .ok (.iload 12, 2) := by decide +kernel
theorem dL_profiles_464 : decode cL_profiles 464 = .ok (.iastore, 1) := by decide +kernel
theorem dL_profiles_465 : decode cL_profiles 465 = .ok (.aload_n 0, 1) := by decide +kernel
theorem dL_profiles_466 : decode cL_profiles 466 = .ok (.iload 7, 2) := by decide +kernel
theorem dL_profiles_468 : decode cL_profiles 468 = .ok (.iload 8, 2) := by decide +kernel
theorem dL_profiles_470 : decode cL_profiles 470 = .ok (.iload 11, 2) := by decide +kernel
theorem dL_profiles_472 : decode cL_profiles 472 = .ok (.iload 12, 2) := by decide +kernel
theorem dL_profiles_474 : decode cL_profiles 474 = .ok (.invokestatic 105, 3) := by decide +kernel
theorem dL_profiles_477 : decode cL_profiles 477 = .ok (.iload 13, 2) := by decide +kernel
theorem dL_profiles_479 : decode cL_profiles 479 = .ok (.if_icmp .ne 7, 3) := by decide +kernel
theorem dL_profiles_482 : decode cL_profiles 482 = .ok (.iconst 1, 1) := by decide +kernel
theorem dL_profiles_483 : decode cL_profiles 483 = .ok (.goto 4, 3) := by decide +kernel
theorem dL_profiles_486 : decode cL_profiles 486 = .ok (.iconst 0, 1) := by decide +kernel
theorem dL_profiles_487 : decode cL_profiles 487 = .ok (.ireturn, 1) := by decide +kernel
theorem dL_profiles_488 : decode cL_profiles 488 = .ok (.iload_n 2, 1) := by decide +kernel
theorem dL_profiles_489 : decode cL_profiles 489 = .ok (.iconst 4, 1) := by decide +kernel
theorem dL_profiles_490 : decode cL_profiles 490 = .ok (.ishr, 1) := by decide +kernel
theorem dL_profiles_491 : decode cL_profiles 491 = .ok (.bipush 20, 2) := by decide +kernel
theorem dL_profiles_493 : decode cL_profiles 493 = .ok (.invokestatic 91, 3) := by decide +kernel
theorem dL_profiles_496 : decode cL_profiles 496 = .ok (.ifCond .ne 7, 3) := by decide +kernel
theorem dL_profiles_499 : decode cL_profiles 499 = .ok (.iconst 3, 1) := by decide +kernel
theorem dL_profiles_500 : decode cL_profiles 500 = .ok (.goto 10, 3) := by decide +kernel
theorem dL_profiles_503 : decode cL_profiles 503 = .ok (.iload_n 2, 1) := by decide +kernel
theorem dL_profiles_504 : decode cL_profiles 504 = .ok (.iconst 4, 1) := by decide +kernel
theorem dL_profiles_505 : decode cL_profiles 505 = .ok (.ishr, 1) := by decide +kernel
theorem dL_profiles_506 : decode cL_profiles 506 = .ok (.iconst 3, 1) := by decide +kernel
theorem dL_profiles_507 : decode cL_profiles 507 = .ok (.invokestatic 91, 3) := by decide +kernel
theorem dL_profiles_510 : decode cL_profiles 510 = .ok (.istore 11, 2) := by decide +kernel
theorem dL_profiles_512 : decode cL_profiles 512 = .ok (.iload 9, 2) := by decide +kernel
theorem dL_profiles_514 : decode cL_profiles 514 = .ok (.ifCond .ne 8, 3) := by decide +kernel
theorem dL_profiles_517 : decode cL_profiles 517 = .ok (.bipush (-101), 2) := by decide +kernel
theorem dL_profiles_519 : decode cL_profiles 519 = .ok (.goto 31, 3) := by decide +kernel
theorem dL_profiles_522 : decode cL_profiles 522 = .ok (.iload 11, 2) := by decide +kernel
theorem dL_profiles_524 : decode cL_profiles 524 = .ok (.iconst 2, 1) := by decide +kernel
theorem dL_profiles_525 : decode cL_profiles 525 = .ok (.if_icmp .le 8, 3) := by decide +kernel
theorem dL_profiles_528 : decode cL_profiles 528 = .ok (.bipush (-102), 2) := by decide +kernel
theorem dL_profiles_530 : decode cL_profiles 530 = .ok (.goto 20, 3) := by decide +kernel
theorem dL_profiles_533 : decode cL_profiles 533 = .ok (.iload 10, 2) := by decide +kernel
theorem dL_profiles_535 : decode cL_profiles 535 = .ok (.ifCond .ne 8, 3) := by decide +kernel
theorem dL_profiles_538 : decode cL_profiles 538 = .ok (.bipush (-103), 2) := by decide +kernel
theorem dL_profiles_540 : decode cL_profiles 540 = .ok (.goto 10, 3) := by decide +kernel
theorem dL_profiles_543 : decode cL_profiles 543 = .ok (.aload_n 3, 1) := by decide +kernel
theorem dL_profiles_544 : decode cL_profiles 544 = .ok (.bipush 8, 2) := by decide +kernel
theorem dL_profiles_546 : decode cL_profiles 546 = .ok (.iload 7, 2) := by decide +kernel
theorem dL_profiles_548 : decode cL_profiles 548 = .ok (.iadd, 1) := by decide +kernel
theorem dL_profiles_549 : decode cL_profiles 549 = .ok (.iaload, 1) := by decide +kernel
theorem dL_profiles_550 : decode cL_profiles 550 = .ok (.istore 12, 2) := by decide +kernel
theorem dL_profiles_552 : decode cL_profiles 552 = .ok (.iload 12, 2) := by decide +kernel
theorem dL_profiles_554 : decode cL_profiles 554 = .ok (.ifCond .lt 12, 3) := by decide +kernel
theorem dL_profiles_557 : decode cL_profiles 557 = .ok (.aload_n 3, 1) := by decide +kernel
theorem dL_profiles_558 : decode cL_profiles 558 = .ok (.bipush 8, 2) := by decide +kernel
theorem dL_profiles_560 : decode cL_profiles 560 = .ok (.iload 7, 2) := by decide +kernel
theorem dL_profiles_562 : decode cL_profiles 562 = .ok (.iadd, 1) := by decide +kernel
theorem dL_profiles_563 : decode cL_profiles 563 = .ok (.iload 11, 2) := by decide +kernel
theorem dL_profiles_565 : decode cL_profiles 565 = .ok (.iastore, 1) := by decide +kernel
theorem dL_profiles_566 : decode cL_profiles 566 = .ok (.aload_n 0, 1) := by decide +kernel
theorem dL_profiles_567 : decode cL_profiles 567 = .ok (.iconst 0, 1) := by decide +kernel
theorem dL_profiles_568 : decode cL_profiles 568 = .ok (.iload 7, 2) := by decide +kernel
theorem dL_profiles_570 : decode cL_profiles 570 = .ok (.iload 11, 2) := by decide +kernel
theorem dL_profiles_572 : decode cL_profiles 572 = .ok (.invokestatic 108, 3) := by decide +kernel
theorem dL_profiles_575 : decode cL_profiles 575 = .ok (.iload 12, 2) := by decide +kernel
theorem dL_profiles_577 : decode cL_profiles 577 = .ok (.if_icmp .ne 7, 3) := by decide +kernel
theorem dL_profiles_580 : decode cL_profiles 580 = .ok (.iconst 1, 1) := by decide +kernel
theorem dL_profiles_581 : decode cL_profiles 581 = .ok (.goto 4, 3) := by decide +kernel
theorem dL_profiles_584 : decode cL_profiles 584 = .ok (.iconst 0, 1) := by decide +kernel
theorem dL_profiles_585 : decode cL_profiles 585 = .ok (.ireturn, 1) := by decide +kernel
set_option maxRecDepth 20000 in
theorem ggL_rows_L_some : GoodIn wsL_rows wsL_some := goodIn_r _ [4] (by decide +kernel) (by decide +kernel)
set_option maxRecDepth 20000 in
theorem gL_rows_L_some : GoodIn wsL_rows (va_wsS RL 91 yL_some wsL_some) := goodIn_app (goodIn_of _ (by decide +kernel)) ggL_rows_L_some
set_option maxRecDepth 20000 in
theorem ggL_rows_L_sets : GoodIn wsL_rows wsL_sets := goodIn_ca (goodIn_ca (goodIn_ca (goodIn_r _ [7, 8, 9, 10, 11, 12, 13, 14, 15, 16, 17, 18, 19, 20, 21, 22, 23, 24, 25, 26, 27, 28, 29, 30, 31, 32, 33, 34, 35, 36, 37, 38, 39, 40, 41, 42, 43, 44, 45, 46, 47, 48, 49, 50, 51, 52, 53, 54, 55, 56, 57, 58, 59, 60, 61, 62, 63, 64, 65, 66, 67, 68, 69, 70, 71, 72, 73, 74, 75, 76, 77, 78, 79, 80, 81, 82, 83, 84, 85, 86, 87, 88, 89, 90, 91, 92, 93, 94, 95, 96, 97, 98, 99, 100, 101, 102, 103, 104, 105, 106, 107, 108, 109, 110, 111, 112, 113, 114, 115, 116, 155, 156, 157, 158, 159, 160, 161, 162, 163, 164, 165, 166, 167, 168, 169] (by decide +kernel) (by decide +kernel)) (goodIn_sub (fun _ h => List.mem_cons_of_mem _ (List.mem_append_left _ (List.mem_append_left _ (List.mem_append_right _ h)))) (by decide +kernel))) (goodIn_sub (fun _ h => List.mem_cons_of_mem _ (List.mem_append_left _ (List.mem_append_right _ h))) (by decide +kernel))) (goodIn_sub (fun _ h => List.mem_cons_of_mem _ (List.mem_append_right _ h)) (by decide +kernel))
set_option maxRecDepth 20000 in
theorem gL_rows_L_sets : GoodIn wsL_rows (va_wsS RL 108 yL_sets wsL_sets) := goodIn_app (goodIn_of _ (by decide +kernel)) ggL_rows_L_sets
set_option maxRecDepth 20000 in
theorem ggL_rows_L_chains : GoodIn wsL_rows wsL_chains := goodIn_ca (goodIn_ca (goodIn_r _ [119, 8, 10, 120, 121, 122, 14, 123, 30, 31, 44, 45, 56, 57, 58, 59, 23, 24, 60, 61, 62, 63, 64, 36, 37, 38, 39, 46, 47, 48, 49, 50, 51, 124, 125, 126, 127, 128, 129, 130, 131, 75, 76, 77, 78, 70, 79, 80, 81, 82, 83, 84, 85, 86, 87, 88, 89, 90, 91, 92, 93, 94, 95, 96, 97, 98, 99, 100, 101, 18, 102, 103, 104, 105, 106, 107, 108, 109, 110, 111, 112, 113, 114, 115, 116, 132, 133, 134, 135, 155, 156, 157, 158, 159, 160, 161, 162, 163, 164, 165, 166, 167, 168, 169] (by decide +kernel) (by decide +kernel)) (goodIn_sub (fun _ h => List.mem_cons_of_mem _ (List.mem_append_right _ h)) (by decide +kernel))) (goodIn_sub (fun _ h => List.mem_cons_of_mem _ (List.mem_append_left _ (List.mem_append_right _ h))) (by decide +kernel))
set_option maxRecDepth 20000 in
theorem gL_rows_L_chains : GoodIn wsL_rows (va_wsS RL 112 yL_chains wsL_chains) := goodIn_app (goodIn_of _ (by decide +kernel)) ggL_rows_L_chains
set_option maxRecDepth 20000 in
theorem ggL_rows_L_gap : GoodIn wsL_rows wsL_gap := goodIn_r _ [138, 139, 140, 141, 3, 142, 143, 144, 145, 146, 147, 148, 149, 150, 151, 152, 153, 154] (by decide +kernel) (by decide +kernel)
set_option maxRecDepth 20000 in
theorem gL_rows_L_gap : GoodIn wsL_rows (va_wsS RL 116 yL_gap wsL_gap) := goodIn_app (goodIn_of _ (by decide +kernel)) ggL_rows_L_gap
set_option maxRecDepth 20000 in
theorem ggL_rows_L_at : GoodIn wsL_rows wsL_at := goodIn_r _ [142] (by decide +kernel) (by decide +kernel)
set_option maxRecDepth 20000 in
theorem gL_rows_L_at : GoodIn wsL_rows (va_wsS RL 9 yL_at wsL_at) := goodIn_app (goodIn_of _ (by decide +kernel)) ggL_rows_L_at
set_option maxRecDepth 20000 in
theorem ggL_rows_L_through : GoodIn wsL_rows wsL_through := goodIn_r _ [145, 146, 147, 3, 148, 149, 150, 151, 140, 141, 142] (by decide +kernel) (by decide +kernel)
set_option maxRecDepth 20000 in
theorem gL_rows_L_through : GoodIn wsL_rows (va_wsS RL 23 yL_through wsL_through) := goodIn_app (goodIn_of _ (by decide +kernel)) ggL_rows_L_through
theorem dL_rows_0 : decode cL_rows 0 = .ok (.iload_n 2, 1) := by decide +kernel
theorem dL_rows_1 : decode cL_rows 1 = .ok (.aload_n 3, 1) := by decide +kernel
theorem dL_rows_2 : decode cL_rows 2 = .ok (.iconst 1, 1) := by decide +kernel
theorem dL_rows_3 : decode cL_rows 3 = .ok (.iaload, 1) := by decide +kernel
theorem dL_rows_4 : decode cL_rows 4 = .ok (.iconst 1, 1) := by decide +kernel
theorem dL_rows_5 : decode cL_rows 5 = .ok (.iadd, 1) := by decide +kernel
theorem dL_rows_6 : decode cL_rows 6 = .ok (.invokestatic 91, 3) := by decide +kernel
theorem dL_rows_9 : decode cL_rows 9 = .ok (.iload_n 2, 1) := by decide +kernel
theorem dL_rows_10 : decode cL_rows 10 = .ok (.bipush 11, 2) := by decide +kernel
theorem dL_rows_12 : decode cL_rows 12 = .ok (.ishr, 1) := by decide +kernel
theorem dL_rows_13 : decode cL_rows 13 = .ok (.bipush 19, 2) := by decide +kernel
theorem dL_rows_15 : decode cL_rows 15 = .ok (.invokestatic 91, 3) := by decide +kernel
theorem dL_rows_18 : decode cL_rows 18 = .ok (.ifCond .ne 7, 3) := by decide +kernel
theorem dL_rows_21 : decode cL_rows 21 = .ok (.iconst 1, 1) := by decide +kernel
theorem dL_rows_22 : decode cL_rows 22 = .ok (.goto 4, 3) := by decide +kernel
theorem dL_rows_25 : decode cL_rows 25 = .ok (.iconst 0, 1) := by decide +kernel
theorem dL_rows_26 : decode cL_rows 26 = .ok (.isub, 1) := by decide +kernel
theorem dL_rows_27 : decode cL_rows 27 = .ok (.istore 8, 2) := by decide +kernel
theorem dL_rows_29 : decode cL_rows 29 = .ok (.iload 8, 2) := by decide +kernel
theorem dL_rows_31 : decode cL_rows 31 = .ok (.ifCond .lt 15, 3) := by decide +kernel
theorem dL_rows_34 : decode cL_rows 34 = .ok (.iload 8, 2) := by decide +kernel
theorem dL_rows_36 : decode cL_rows 36 = .ok (.aload_n 3, 1) := by decide +kernel
theorem dL_rows_37 : decode cL_rows 37 = .ok (.iconst 1, 1) := by decide +kernel
theorem dL_rows_38 : decode cL_rows 38 = .ok (.iaload, 1) := by decide +kernel
theorem dL_rows_39 : decode cL_rows 39 = .ok (.if_icmp .ge 7, 3) := by decide +kernel
theorem dL_rows_42 : decode cL_rows 42 = .ok (.iconst 1, 1) := by decide +kernel
theorem dL_rows_43 : decode cL_rows 43 = .ok (.goto 4, 3) := by decide +kernel
theorem dL_rows_46 : decode cL_rows 46 = .ok (.iconst 0, 1) := by decide +kernel
theorem dL_rows_47 : decode cL_rows 47 = .ok (.istore 9, 2) := by decide +kernel
theorem dL_rows_49 : decode cL_rows 49 = .ok (.iload_n 1, 1) := by decide +kernel
theorem dL_rows_50 : decode cL_rows 50 = .ok (.ifCond .ne 131, 3) := by decide +kernel
theorem dL_rows_53 : decode cL_rows 53 = .ok (.iload_n 2, 1) := by decide +kernel
theorem dL_rows_54 : decode cL_rows 54 = .ok (.iconst 4, 1) := by decide +kernel
theorem dL_rows_55 : decode cL_rows 55 = .ok (.ishr, 1) := by decide +kernel
theorem dL_rows_56 : decode cL_rows 56 = .ok (.aload_n 3, 1) := by decide +kernel
theorem dL_rows_57 : decode cL_rows 57 = .ok (.iconst 0, 1) := by decide +kernel
theorem dL_rows_58 : decode cL_rows 58 = .ok (.iaload, 1) := by decide +kernel
theorem dL_rows_59 : decode cL_rows 59 = .ok (.iconst 1, 1) := by decide +kernel
theorem dL_rows_60 : decode cL_rows 60 = .ok (.iadd, 1) := by decide +kernel
theorem dL_rows_61 : decode cL_rows 61 = .ok (.invokestatic 91, 3) := by decide +kernel
theorem dL_rows_64 : decode cL_rows 64 = .ok (.istore 10, 2) := by decide +kernel
theorem dL_rows_66 : decode cL_rows 66 = .ok (.iload 9, 2) := by decide +kernel
theorem dL_rows_68 : decode cL_rows 68 = .ok (.ifCond .eq 15, 3) := by decide +kernel
theorem dL_rows_71 : decode cL_rows 71 = .ok (.iload 10, 2) := by decide +kernel
theorem dL_rows_73 : decode cL_rows 73 = .ok (.aload_n 3, 1) := by decide +kernel
theorem dL_rows_74 : decode cL_rows 74 = .ok (.iconst 0, 1) := by decide +kernel
theorem dL_rows_75 : decode cL_rows 75 = .ok (.iaload, 1) := by decide +kernel
theorem dL_rows_76 : decode cL_rows 76 = .ok (.if_icmp .ge 7, 3) := by decide +kernel
theorem dL_rows_79 : decode cL_rows 79 = .ok (.iconst 1, 1) := by decide +kernel
theorem dL_rows_80 : decode cL_rows 80 = .ok (.goto 4, 3) := by decide +kernel
theorem dL_rows_83 : decode cL_rows 83 = .ok (.iconst 0, 1) := by decide +kernel
theorem dL_rows_84 : decode cL_rows 84 = .ok (.istore 11, 2) := by decide +kernel
theorem dL_rows_86 : decode cL_rows 86 = .ok (.iload 11, 2) := by decide +kernel
theorem dL_rows_88 : decode cL_rows 88 = .ok (.ifCond .ne 8, 3) := by decide +kernel
theorem dL_rows_91 : decode cL_rows 91 = .ok (.bipush (-101), 2) := by decide +kernel
theorem dL_rows_93 : decode cL_rows 93 = .ok (.goto 38, 3) := by decide +kernel
theorem dL_rows_96 : decode cL_rows 96 = .ok (.aload_n 3, 1) := by decide +kernel
theorem dL_rows_97 : decode cL_rows 97 = .ok (.bipush 6, 2) := by decide +kernel
theorem dL_rows_99 : decode cL_rows 99 = .ok (.iload 8, 2) := by decide +kernel
theorem dL_rows_101 : decode cL_rows 101 = .ok (.iadd, 1) := by decide +kernel
theorem dL_rows_102 : decode cL_rows 102 = .ok (.iaload, 1) := by decide +kernel
theorem dL_rows_103 : decode cL_rows 103 = .ok (.iconst 1, 1) := by decide +kernel
theorem dL_rows_104 : decode cL_rows 104 = .ok (.if_icmp .eq 14, 3) := by decide +kernel
theorem dL_rows_107 : decode cL_rows 107 = .ok (.aload_n 3, 1) := by decide +kernel
theorem dL_rows_108 : decode cL_rows 108 = .ok (.iconst 2, 1) := by decide +kernel
theorem dL_rows_109 : decode cL_rows 109 = .ok (.iload 8, 2) := by decide +kernel
theorem dL_rows_111 : decode cL_rows 111 = .ok (.iadd, 1) := by decide +kernel
theorem dL_rows_112 : decode cL_rows 112 = .ok (.iaload, 1) := by decide +kernel
theorem dL_rows_113 : decode cL_rows 113 = .ok (.bipush 6, 2) := by decide +kernel
theorem dL_rows_115 : decode cL_rows 115 = .ok (.if_icmp .ne 8, 3) := by decide +kernel
theorem dL_rows_118 : decode cL_rows 118 = .ok (.bipush (-103), 2) := by decide +kernel
theorem dL_rows_120 : decode cL_rows 120 = .ok (.goto 11, 3) := by decide +kernel
theorem dL_rows_123 : decode cL_rows 123 = .ok (.aload_n 3, 1) := by decide +kernel
theorem dL_rows_124 : decode cL_rows 124 = .ok (.iconst 2, 1) := by decide +kernel
theorem dL_rows_125 : decode cL_rows 125 = .ok (.iload 8, 2) := by decide +kernel
theorem dL_rows_127 : decode cL_rows 127 = .ok (.iadd, 1) := by decide +kernel
theorem dL_rows_128 : decode cL_rows 128 = .ok (.iaload, 1) := by decide +kernel
theorem dL_rows_129 : decode cL_rows 129 = .ok (.iconst 1, 1) := by decide +kernel
theorem dL_rows_130 : decode cL_rows 130 = .ok (.iadd, 1) := by decide +kernel
theorem dL_rows_131 : decode cL_rows 131 = .ok (.istore 12, 2) := by decide +kernel
theorem dL_rows_133 : decode cL_rows 133 = .ok (.iload 12, 2) := by decide +kernel
theorem dL_rows_135 : decode cL_rows 135 = .ok (.ifCond .le 26, 3) := by decide +kernel
theorem dL_rows_138 : decode cL_rows 138 = .ok (.aload 6, 2) := by decide +kernel
theorem dL_rows_140 : decode cL_rows 140 = .ok (.bipush 6, 2) := by decide +kernel
theorem dL_rows_142 : decode cL_rows 142 = .ok (.iload 8, 2) := by decide +kernel
theorem dL_rows_144 : decode cL_rows 144 = .ok (.imul, 1) := by decide +kernel
theorem dL_rows_145 : decode cL_rows 145 = .ok (.iload 12, 2) := by decide +kernel
theorem dL_rows_147 : decode cL_rows 147 = .ok (.iadd, 1) := by decide +kernel
theorem dL_rows_148 : decode cL_rows 148 = .ok (.iconst 1, 1) := by decide +kernel
theorem dL_rows_149 : decode cL_rows 149 = .ok (.isub, 1) := by decide +kernel
theorem dL_rows_150 : decode cL_rows 150 = .ok (.iload 10, 2) := by decide +kernel
theorem dL_rows_152 : decode cL_rows 152 = .ok (.iastore, 1) := by decide +kernel
theorem dL_rows_153 : decode cL_rows 153 = .ok (.aload_n 3, 1) := by decide +kernel
theorem dL_rows_154 : decode cL_rows 154 = .ok (.iconst 2, 1) := by decide +kernel
theorem dL_rows_155 : decode cL_rows 155 = .ok (.iload 8, 2) := by decide +kernel
theorem dL_rows_157 : decode cL_rows 157 = .ok (.iadd, 1) := by decide +kernel
theorem dL_rows_158 : decode cL_rows 158 = .ok (.iload 12, 2) := by decide +kernel
theorem dL_rows_160 : decode cL_rows 160 = .ok (.iastore, 1) := by decide +kernel
theorem dL_rows_161 : decode cL_rows 161 = .ok (.aload_n 0, 1) := by decide +kernel
theorem dL_rows_162 : decode cL_rows 162 = .ok (.iconst 1, 1) := by decide +kernel
theorem dL_rows_163 : decode cL_rows 163 = .ok (.iload 8, 2) := by decide +kernel
theorem dL_rows_165 : decode cL_rows 165 = .ok (.iload 10, 2) := by decide +kernel
theorem dL_rows_167 : decode cL_rows 167 = .ok (.invokestatic 108, 3) := by decide +kernel
theorem dL_rows_170 : decode cL_rows 170 = .ok (.iload 12, 2) := by decide +kernel
theorem dL_rows_172 : decode cL_rows 172 = .ok (.if_icmp .ne 7, 3) := by decide +kernel
theorem dL_rows_175 : decode cL_rows 175 = .ok (.iconst 1, 1) := by decide +kernel
theorem dL_rows_176 : decode cL_rows 176 = .ok (.goto 4, 3) := by decide +kernel
theorem dL_rows_179 : decode cL_rows 179 = .ok (.iconst 0, 1) := by decide +kernel
theorem dL_rows_180 : decode cL_rows 180 = .ok (.ireturn, 1) := by decide +kernel
theorem dL_rows_181 : decode cL_rows 181 = .ok (.iload_n 1, 1) := by decide +kernel
theorem dL_rows_182 : decode cL_rows 182 = .ok (.iconst 1, 1) := by decide +kernel
theorem dL_rows_183 : decode cL_rows 183 = .ok (.if_icmp .ne 90, 3) := by decide +kernel
theorem dL_rows_186 : decode cL_rows 186 = .ok (.iload 9, 2) := by decide +kernel
theorem dL_rows_188 : decode cL_rows 188 = .ok (.ifCond .ne 8, 3) := by decide +kernel
theorem dL_rows_191 : decode cL_rows 191 = .ok (.bipush (-101), 2) := by decide +kernel
theorem dL_rows_193 : decode cL_rows 193 = .ok (.goto 45, 3) := by decide +kernel
theorem dL_rows_196 : decode cL_rows 196 = .ok (.aload_n 3, 1) := by decide +kernel
theorem dL_rows_197 : decode cL_rows 197 = .ok (.bipush 6, 2) := by decide +kernel
theorem dL_rows_199 : decode cL_rows 199 = .ok (.iload 8, 2) := by decide +kernel
theorem dL_rows_201 : decode cL_rows 201 = .ok (.iadd, 1) := by decide +kernel
theorem dL_rows_202 : decode cL_rows 202 = .ok (.iaload, 1) := by decide +kernel
theorem dL_rows_203 : decode cL_rows 203 = .ok (.iconst 1, 1) := by decide +kernel
theorem dL_rows_204 : decode cL_rows 204 = .ok (.if_icmp .eq 12, 3) := by decide +kernel
theorem dL_rows_207 : decode cL_rows 207 = .ok (.aload_n 3, 1) := by decide +kernel
theorem dL_rows_208 : decode cL_rows 208 = .ok (.iconst 2, 1) := by decide +kernel
theorem dL_rows_209 : decode cL_rows 209 = .ok (.iload 8, 2) := by decide +kernel
theorem dL_rows_211 : decode cL_rows 211 = .ok (.iadd, 1) := by decide +kernel
theorem dL_rows_212 : decode cL_rows 212 = .ok (.iaload, 1) := by decide +kernel
theorem dL_rows_213 : decode cL_rows 213 = .ok (.ifCond .ne 8, 3) := by decide +kernel
theorem dL_rows_216 : decode cL_rows 216 = .ok (.bipush (-103), 2) := by decide +kernel
theorem dL_rows_218 : decode cL_rows 218 = .ok (.goto 20, 3) := by decide +kernel
theorem dL_rows_221 : decode cL_rows 221 = .ok (.aload 6, 2) := by decide +kernel
theorem dL_rows_223 : decode cL_rows 223 = .ok (.bipush 6, 2) := by decide +kernel
theorem dL_rows_225 : decode cL_rows 225 = .ok (.iload 8, 2) := by decide +kernel
theorem dL_rows_227 : decode cL_rows 227 = .ok (.imul, 1) := by decide +kernel
theorem dL_rows_228 : decode cL_rows 228 = .ok (.aload_n 3, 1) := by decide +kernel
theorem dL_rows_229 : decode cL_rows 229 = .ok (.iconst 2, 1) := by decide +kernel
theorem dL_rows_230 : decode cL_rows 230 = .ok (.iload 8, 2) := by decide +kernel
theorem dL_rows_232 : decode cL_rows 232 = .ok (.iadd, 1) := by decide +kernel
theorem dL_rows_233 : decode cL_rows 233 = .ok (.iaload, 1) := by decide +kernel
theorem dL_rows_234 : decode cL_rows 234 = .ok (.iadd, 1) := by decide +kernel
theorem dL_rows_235 : decode cL_rows 235 = .ok (.iconst 1, 1) := by decide +kernel
theorem dL_rows_236 : decode cL_rows 236 = .ok (.isub, 1) := by decide +kernel
theorem dL_rows_237 : decode cL_rows 237 = .ok (.iaload, 1) := by decide +kernel
theorem dL_rows_238 : decode cL_rows 238 = .ok (.istore 10, 2) := by decide +kernel
theorem dL_rows_240 : decode cL_rows 240 = .ok (.iload 10, 2) := by decide +kernel
theorem dL_rows_242 : decode cL_rows 242 = .ok (.ifCond .lt 13, 3) := by decide +kernel
theorem dL_rows_245 : decode cL_rows 245 = .ok (.aload_n 3, 1) := by decide +kernel
theorem dL_rows_246 : decode cL_rows 246 = .ok (.iconst 2, 1) := by decide +kernel
theorem dL_rows_247 : decode cL_rows 247 = .ok (.iload 8, 2) := by decide +kernel
theorem dL_rows_249 : decode cL_rows 249 = .ok (.iadd, 1) := by decide +kernel
theorem dL_rows_250 : decode cL_rows 250 = .ok (.dup2, 1) := by decide +kernel
theorem dL_rows_251 : decode cL_rows 251 = .ok (.iaload, 1) := by decide +kernel
theorem dL_rows_252 : decode cL_rows 252 = .ok (.iconst 1, 1) := by decide +kernel
theorem dL_rows_253 : decode cL_rows 253 = .ok (.isub, 1) := by decide +kernel
theorem dL_rows_254 : decode cL_rows 254 = .ok (.iastore, 1) := by decide +kernel
theorem dL_rows_255 : decode cL_rows 255 = .ok (.aload_n 0, 1) := by decide +kernel
theorem dL_rows_256 : decode cL_rows 256 = .ok (.iconst 0, 1) := by decide +kernel
theorem dL_rows_257 : decode cL_rows 257 = .ok (.iload 8, 2) := by decide +kernel
theorem dL_rows_259 : decode cL_rows 259 = .ok (.invokestatic 112, 3) := by decide +kernel
theorem dL_rows_262 : decode cL_rows 262 = .ok (.iload 10, 2) := by decide +kernel
theorem dL_rows_264 : decode cL_rows 264 = .ok (.if_icmp .ne 7, 3) := by decide +kernel
theorem dL_rows_267 : decode cL_rows 267 = .ok (.iconst 1, 1) := by decide +kernel
theorem dL_rows_268 : decode cL_rows 268 = .ok (.goto 4, 3) := by decide +kernel
theorem dL_rows_271 : decode cL_rows 271 = .ok (.iconst 0, 1) := by decide +kernel
theorem dL_rows_272 : decode cL_rows 272 = .ok (.ireturn, 1) := by decide +kernel
theorem dL_rows_273 : decode cL_rows 273 = .ok (.iload_n 1, 1) := by decide +kernel
theorem dL_rows_274 : decode cL_rows 274 = .ok (.iconst 2, 1) := by decide +kernel
theorem dL_rows_275 : decode cL_rows 275 = .ok (.if_icmp .ne 57, 3) := by decide +kernel
theorem dL_rows_278 : decode cL_rows 278 = .ok (.iload 9, 2) := by decide +kernel
theorem dL_rows_280 : decode cL_rows 280 = .ok (.ifCond .eq 19, 3) := by decide +kernel
theorem dL_rows_283 : decode cL_rows 283 = .ok (.aload_n 3, 1) := by decide +kernel
theorem dL_rows_284 : decode cL_rows 284 = .ok (.bipush 6, 2) := by decide +kernel
theorem dL_rows_286 : decode cL_rows 286 = .ok (.iload 8, 2) := by decide +kernel
theorem dL_rows_288 : decode cL_rows 288 = .ok (.iadd, 1) := by decide +kernel
theorem dL_rows_289 : decode cL_rows 289 = .ok (.iconst 1, 1) := by decide +kernel
theorem dL_rows_290 : decode cL_rows 290 = .ok (.aload_n 3, 1) := by decide +kernel
theorem dL_rows_291 : decode cL_rows 291 = .ok (.bipush 6, 2) := by decide +kernel
theorem dL_rows_293 : decode cL_rows 293 = .ok (.iload 8, 2) := by decide +kernel
theorem dL_rows_295 : decode cL_rows 295 = .ok (.iadd, 1) := by decide +kernel
theorem dL_rows_296 : decode cL_rows 296 = .ok (.iaload, 1) := by decide +kernel
theorem dL_rows_297 : decode cL_rows 297 = .ok (.isub, 1) := by decide +kernel
theorem dL_rows_298 : decode cL_rows 298 = .ok (.iastore, 1) := by decide +kernel
theorem dL_rows_299 : decode cL_rows 299 = .ok (.aload_n 0, 1) := by decide +kernel
theorem dL_rows_300 : decode cL_rows 300 = .ok (.iconst 1, 1) := by decide +kernel
theorem dL_rows_301 : decode cL_rows 301 = .ok (.iload 8, 2) := by decide +kernel
theorem dL_rows_303 : decode cL_rows 303 = .ok (.invokestatic 112, 3) := by decide +kernel
theorem dL_rows_306 : decode cL_rows 306 = .ok (.iload 9, 2) := by decide +kernel
theorem dL_rows_308 : decode cL_rows 308 = .ok (.ifCond .eq 13, 3) := by decide +kernel
theorem dL_rows_311 : decode cL_rows 311 = .ok (.aload_n 3, 1) := by decide +kernel
theorem dL_rows_312 : decode cL_rows 312 = .ok (.bipush 6, 2) := by decide +kernel
theorem dL_rows_314 : decode cL_rows 314 = .ok (.iload 8, 2) := by decide +kernel
theorem dL_rows_316 : decode cL_rows 316 = .ok (.iadd, 1) := by decide +kernel
theorem dL_rows_317 : decode cL_rows 317 = .ok (.iaload, 1) := by decide +kernel
theorem dL_rows_318 : decode cL_rows 318 = .ok (.goto 5, 3) := by decide +kernel
theorem dL_rows_321 : decode cL_rows 321 = .ok (.bipush (-101), 2) := by decide +kernel
theorem dL_rows_323 : decode cL_rows 323 = .ok (.if_icmp .ne 7, 3) := by decide +kernel
theorem dL_rows_326 : decode cL_rows 326 = .ok (.iconst 1, 1) := by decide +kernel
theorem dL_rows_327 : decode cL_rows 327 = .ok (.goto 4, 3) := by decide +kernel
theorem dL_rows_330 : decode cL_rows 330 = .ok (.iconst 0, 1) := by decide +kernel
theorem dL_rows_331 : decode cL_rows 331 = .ok (.ireturn, 1) := by decide +kernel
theorem dL_rows_332 : decode cL_rows 332 = .ok (.iload_n 2, 1) := by decide +kernel
theorem dL_rows_333 : decode cL_rows 333 = .ok (.iconst 4, 1) := by decide +kernel
theorem dL_rows_334 : decode cL_rows 334 = .ok (.ishr, 1) := by decide +kernel
theorem dL_rows_335 : decode cL_rows 335 = .ok (.bipush 20, 2) := by decide +kernel
theorem dL_rows_337 : decode cL_rows 337 = .ok (.invokestatic 91, 3) := by decide +kernel
theorem dL_rows_340 : decode cL_rows 340 = .ok (.ifCond .ne 9, 3) := by decide +kernel
theorem dL_rows_343 : decode cL_rows 343 = .ok (.sipush 256, 3) := by decide +kernel
theorem dL_rows_346 : decode cL_rows 346 = .ok (.goto 27, 3) := by decide +kernel
theorem dL_rows_349 : decode cL_rows 349 = .ok (.iload_n 2, 1) := by decide +kernel
theorem dL_rows_350 : decode cL_rows 350 = .ok (.iconst 4, 1) := by decide +kernel
theorem dL_rows_351 : decode cL_rows 351 = .ok (.ishr, 1) := by decide +kernel
theorem dL_rows_352 : decode cL_rows 352 = .ok (.iconst 3, 1) := by decide +kernel
theorem dL_rows_353 : decode cL_rows 353 = .ok (.invokestatic 91, 3) := by decide +kernel
theorem dL_rows_356 : decode cL_rows 356 = .ok (.ifCond .ne 9, 3) := by decide +kernel
theorem dL_rows_359 : decode cL_rows 359 = .ok (.sipush 255, 3) := by decide +kernel
theorem dL_rows_362 : decode cL_rows 362 = .ok (.goto 11, 3) := by decide +kernel
theorem dL_rows_365 : decode cL_rows 365 = .ok (.iload_n 2, 1) := by decide +kernel
theorem dL_rows_366 : decode cL_rows 366 = .ok (.iconst 4, 1) := by decide +kernel
theorem dL_rows_367 : decode cL_rows 367 = .ok (.ishr, 1) := by decide +kernel
theorem dL_rows_368 : decode cL_rows 368 = .ok (.bipush 12, 2) := by decide +kernel
theorem dL_rows_370 : decode cL_rows 370 = .ok (.invokestatic 91, 3) := by decide +kernel
theorem dL_rows_373 : decode cL_rows 373 = .ok (.istore 10, 2) := by decide +kernel
theorem dL_rows_375 : decode cL_rows 375 = .ok (.iload 9, 2) := by decide +kernel
theorem dL_rows_377 : decode cL_rows 377 = .ok (.ifCond .eq 18, 3) := by decide +kernel
theorem dL_rows_380 : decode cL_rows 380 = .ok (.aload_n 3, 1) := by decide +kernel
theorem dL_rows_381 : decode cL_rows 381 = .ok (.aload 4, 2) := by decide +kernel
theorem dL_rows_383 : decode cL_rows 383 = .ok (.aload 5, 2) := by decide +kernel
theorem dL_rows_385 : decode cL_rows 385 = .ok (.aload 6, 2) := by decide +kernel
theorem dL_rows_387 : decode cL_rows 387 = .ok (.iload 8, 2) := by decide +kernel
theorem dL_rows_389 : decode cL_rows 389 = .ok (.invokestatic 116, 3) := by decide +kernel
theorem dL_rows_392 : decode cL_rows 392 = .ok (.goto 4, 3) := by decide +kernel
theorem dL_rows_395 : decode cL_rows 395 = .ok (.iconst 0, 1) := by decide +kernel
theorem dL_rows_396 : decode cL_rows 396 = .ok (.istore 11, 2) := by decide +kernel
theorem dL_rows_398 : decode cL_rows 398 = .ok (.iload 9, 2) := by decide +kernel
theorem dL_rows_400 : decode cL_rows 400 = .ok (.ifCond .ne 8, 3) := by decide +kernel
theorem dL_rows_403 : decode cL_rows 403 = .ok (.bipush (-101), 2) := by decide +kernel
theorem dL_rows_405 : decode cL_rows 405 = .ok (.goto 30, 3) := by decide +kernel
theorem dL_rows_408 : decode cL_rows 408 = .ok (.iload 10, 2) := by decide +kernel
theorem dL_rows_410 : decode cL_rows 410 = .ok (.sipush 255, 3) := by decide +kernel
theorem dL_rows_413 : decode cL_rows 413 = .ok (.if_icmp .le 8, 3) := by decide +kernel
theorem dL_rows_416 : decode cL_rows 416 = .ok (.bipush (-102), 2) := by decide +kernel
theorem dL_rows_418 : decode cL_rows 418 = .ok (.goto 17, 3) := by decide +kernel
theorem dL_rows_421 : decode cL_rows 421 = .ok (.iload 11, 2) := by decide +kernel
theorem dL_rows_423 : decode cL_rows 423 = .ok (.iload 10, 2) := by decide +kernel
theorem dL_rows_425 : decode cL_rows 425 = .ok (.if_icmp .le 8, 3) := by decide +kernel
theorem dL_rows_428 : decode cL_rows 428 = .ok (.bipush (-103), 2) := by decide +kernel
theorem dL_rows_430 : decode cL_rows 430 = .ok (.goto 5, 3) := by decide +kernel
theorem dL_rows_433 : decode cL_rows 433 = .ok (.iload 11, 2) := by decide +kernel
theorem dL_rows_435 : decode cL_rows 435 = .ok (.istore 12, 2) := by decide +kernel
theorem dL_rows_437 : decode cL_rows 437 = .ok (.iconst 0, 1) := by decide +kernel
theorem dL_rows_438 : decode cL_rows 438 = .ok (.istore 13, 2) := by decide +kernel
theorem dL_rows_440 : decode cL_rows 440 = .ok (.iload 13, 2) := by decide +kernel
theorem dL_rows_442 : decode cL_rows 442 = .ok (.bipush 15, 2) := by decide +kernel
theorem dL_rows_444 : decode cL_rows 444 = .ok (.if_icmp .ge 55, 3) := by decide +kernel
theorem dL_rows_447 : decode cL_rows 447 = .ok (.iload 12, 2) := by decide +kernel
theorem dL_rows_449 : decode cL_rows 449 = .ok (.ifCond .lt 50, 3) := by decide +kernel
theorem dL_rows_452 : decode cL_rows 452 = .ok (.aload 7, 2) := by decide +kernel
theorem dL_rows_454 : decode cL_rows 454 = .ok (.bipush 15, 2) := by decide +kernel
theorem dL_rows_456 : decode cL_rows 456 = .ok (.iload 8, 2) := by decide +kernel
theorem dL_rows_458 : decode cL_rows 458 = .ok (.imul, 1) := by decide +kernel
theorem dL_rows_459 : decode cL_rows 459 = .ok (.iload 13, 2) := by decide +kernel
theorem dL_rows_461 : decode cL_rows 461 = .ok (.iadd, 1) := by decide +kernel
theorem dL_rows_462 : decode cL_rows 462 = .ok (.aload_n 3, 1) := by decide +kernel
theorem dL_rows_463 : decode cL_rows 463 = .ok (.aload 4, 2) := by decide +kernel
theorem dL_rows_465 : decode cL_rows 465 = .ok (.aload 5, 2) := by decide +kernel
theorem dL_rows_467 : decode cL_rows 467 = .ok (.aload 6, 2) := by decide +kernel
theorem dL_rows_469 : decode cL_rows 469 = .ok (.iload 8, 2) := by decide +kernel
theorem dL_rows_471 : decode cL_rows 471 = .ok (.iload 13, 2) := by decide +kernel
theorem dL_rows_473 : decode cL_rows 473 = .ok (.iconst 5, 1) := by decide +kernel
