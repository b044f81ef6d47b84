theorem dL_refuses_424 : decode cL_refuses 424 = .ok (.bipush 7, 2) := by decide +kernel
theorem dL_refuses_426 : decode cL_refuses 426 = .ok (.aload_n 0, 1) := by decide +kernel
theorem dL_refuses_427 : decode cL_refuses 427 = .ok (.iload 5, 2) := by decide +kernel
theorem dL_refuses_429 : decode cL_refuses 429 = .ok (.iconst 0, 1) := by decide +kernel
theorem dL_refuses_430 : decode cL_refuses 430 = .ok (.invokevirtual 9, 3) := by decide +kernel
theorem dL_refuses_433 : decode cL_refuses 433 = .ok (.imul, 1) := by decide +kernel
theorem dL_refuses_434 : decode cL_refuses 434 = .ok (.iadd, 1) := by decide +kernel
theorem dL_refuses_435 : decode cL_refuses 435 = .ok (.aload_n 0, 1) := by decide +kernel
theorem dL_refuses_436 : decode cL_refuses 436 = .ok (.iload 5, 2) := by decide +kernel
theorem dL_refuses_438 : decode cL_refuses 438 = .ok (.iconst 1, 1) := by decide +kernel
theorem dL_refuses_439 : decode cL_refuses 439 = .ok (.invokevirtual 9, 3) := by decide +kernel
theorem dL_refuses_442 : decode cL_refuses 442 = .ok (.iadd, 1) := by decide +kernel
theorem dL_refuses_443 : decode cL_refuses 443 = .ok (.bipush 100, 2) := by decide +kernel
theorem dL_refuses_445 : decode cL_refuses 445 = .ok (.aload_n 0, 1) := by decide +kernel
theorem dL_refuses_446 : decode cL_refuses 446 = .ok (.iload 5, 2) := by decide +kernel
theorem dL_refuses_448 : decode cL_refuses 448 = .ok (.iconst 4, 1) := by decide +kernel
theorem dL_refuses_449 : decode cL_refuses 449 = .ok (.invokevirtual 9, 3) := by decide +kernel
theorem dL_refuses_452 : decode cL_refuses 452 = .ok (.imul, 1) := by decide +kernel
theorem dL_refuses_453 : decode cL_refuses 453 = .ok (.iadd, 1) := by decide +kernel
theorem dL_refuses_454 : decode cL_refuses 454 = .ok (.istore 4, 2) := by decide +kernel
theorem dL_refuses_456 : decode cL_refuses 456 = .ok (.iinc 5 1, 3) := by decide +kernel
theorem dL_refuses_459 : decode cL_refuses 459 = .ok (.goto (-53), 3) := by decide +kernel
theorem dL_refuses_462 : decode cL_refuses 462 = .ok (.iload_n 3, 1) := by decide +kernel
theorem dL_refuses_463 : decode cL_refuses 463 = .ok (.ifCond .eq 13, 3) := by decide +kernel
theorem dL_refuses_466 : decode cL_refuses 466 = .ok (.iload 4, 2) := by decide +kernel
theorem dL_refuses_468 : decode cL_refuses 468 = .ok (.iload_n 2, 1) := by decide +kernel
theorem dL_refuses_469 : decode cL_refuses 469 = .ok (.if_icmp .ne 7, 3) := by decide +kernel
theorem dL_refuses_472 : decode cL_refuses 472 = .ok (.iconst 1, 1) := by decide +kernel
theorem dL_refuses_473 : decode cL_refuses 473 = .ok (.goto 4, 3) := by decide +kernel
theorem dL_refuses_476 : decode cL_refuses 476 = .ok (.iconst 0, 1) := by decide +kernel
theorem dL_refuses_477 : decode cL_refuses 477 = .ok (.ireturn, 1) := by decide +kernel
set_option maxRecDepth 20000 in
theorem ggL_law_X6_init : GoodIn wsL_law wsX6_init := goodIn_r _ [8, 9, 10, 11, 12, 13, 14, 15, 16, 17, 18, 19, 20, 21, 22, 23, 24, 25, 26, 27, 28, 29, 30, 31, 32, 33, 34, 35, 36, 37, 38, 39, 40, 41, 42, 43, 44, 45, 46, 47, 48, 49, 50, 51, 52, 53, 54, 55, 56, 57, 58, 59, 60, 61, 62, 63, 64, 65, 66, 67, 68, 69, 70, 71, 72, 73, 74, 75, 76, 77, 78, 79, 80, 81, 82, 83, 84, 85, 86, 87, 88, 89, 90, 91, 92, 93, 94, 581, 582, 583, 584, 585, 586, 587, 588, 572, 573, 574, 575, 576, 577, 578, 579, 580, 589, 590, 591, 592, 593, 594, 595, 596, 597, 598, 599, 600, 601] (by decide +kernel) (by decide +kernel)
set_option maxRecDepth 20000 in
theorem gL_law_X6_init : GoodIn wsL_law (wsX6_init) := ggL_law_X6_init
set_option maxRecDepth 20000 in
theorem ggL_law_L_cell : GoodIn wsL_law wsL_cell := goodIn_r _ [98, 99] (by decide +kernel) (by decide +kernel)
set_option maxRecDepth 20000 in
theorem gL_law_L_cell : GoodIn wsL_law (va_wsS RL 96 yL_cell wsL_cell) := goodIn_app (goodIn_of _ (by decide +kernel)) ggL_law_L_cell
set_option maxRecDepth 20000 in
theorem ggL_law_L_low : GoodIn wsL_law wsL_low := goodIn_r _ [102, 103] (by decide +kernel) (by decide +kernel)
set_option maxRecDepth 20000 in
theorem gL_law_L_low : GoodIn wsL_law (va_wsS RL 100 yL_low wsL_low) := goodIn_app (goodIn_of _ (by decide +kernel)) ggL_law_L_low
