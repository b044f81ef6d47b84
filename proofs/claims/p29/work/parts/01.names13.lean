theorem dL_law_335 : decode cL_law 335 = .ok (.iload 6, 2) := by decide +kernel
theorem dL_law_337 : decode cL_law 337 = .ok (.iconst 2, 1) := by decide +kernel
theorem dL_law_338 : decode cL_law 338 = .ok (.invokevirtual 9, 3) := by decide +kernel
theorem dL_law_341 : decode cL_law 341 = .ok (.bipush 20, 2) := by decide +kernel
theorem dL_law_343 : decode cL_law 343 = .ok (.if_icmp .ne 7, 3) := by decide +kernel
theorem dL_law_346 : decode cL_law 346 = .ok (.iconst 1, 1) := by decide +kernel
theorem dL_law_347 : decode cL_law 347 = .ok (.goto 4, 3) := by decide +kernel
theorem dL_law_350 : decode cL_law 350 = .ok (.iconst 0, 1) := by decide +kernel
theorem dL_law_351 : decode cL_law 351 = .ok (.istore 11, 2) := by decide +kernel
theorem dL_law_353 : decode cL_law 353 = .ok (.iload_n 3, 1) := by decide +kernel
theorem dL_law_354 : decode cL_law 354 = .ok (.ifCond .ne 8, 3) := by decide +kernel
theorem dL_law_357 : decode cL_law 357 = .ok (.iload 10, 2) := by decide +kernel
theorem dL_law_359 : decode cL_law 359 = .ok (.ifCond .le 7, 3) := by decide +kernel
theorem dL_law_362 : decode cL_law 362 = .ok (.iconst 1, 1) := by decide +kernel
theorem dL_law_363 : decode cL_law 363 = .ok (.goto 4, 3) := by decide +kernel
theorem dL_law_366 : decode cL_law 366 = .ok (.iconst 0, 1) := by decide +kernel
theorem dL_law_367 : decode cL_law 367 = .ok (.istore_n 3, 1) := by decide +kernel
theorem dL_law_368 : decode cL_law 368 = .ok (.goto 398, 3) := by decide +kernel
theorem dL_law_371 : decode cL_law 371 = .ok (.iload 8, 2) := by decide +kernel
theorem dL_law_373 : decode cL_law 373 = .ok (.iconst 5, 1) := by decide +kernel
theorem dL_law_374 : decode cL_law 374 = .ok (.if_icmp .ne 29, 3) := by decide +kernel
theorem dL_law_377 : decode cL_law 377 = .ok (.aload_n 1, 1) := by decide +kernel
theorem dL_law_378 : decode cL_law 378 = .ok (.iload 6, 2) := by decide +kernel
theorem dL_law_380 : decode cL_law 380 = .ok (.invokestatic 110, 3) := by decide +kernel
theorem dL_law_383 : decode cL_law 383 = .ok (.istore 11, 2) := by decide +kernel
theorem dL_law_385 : decode cL_law 385 = .ok (.iload_n 3, 1) := by decide +kernel
theorem dL_law_386 : decode cL_law 386 = .ok (.ifCond .ne 8, 3) := by decide +kernel
theorem dL_law_389 : decode cL_law 389 = .ok (.iload 10, 2) := by decide +kernel
theorem dL_law_391 : decode cL_law 391 = .ok (.ifCond .le 7, 3) := by decide +kernel
theorem dL_law_394 : decode cL_law 394 = .ok (.iconst 1, 1) := by decide +kernel
theorem dL_law_395 : decode cL_law 395 = .ok (.goto 4, 3) := by decide +kernel
theorem dL_law_398 : decode cL_law 398 = .ok (.iconst 0, 1) := by decide +kernel
theorem dL_law_399 : decode cL_law 399 = .ok (.istore_n 3, 1) := by decide +kernel
theorem dL_law_400 : decode cL_law 400 = .ok (.goto 366, 3) := by decide +kernel
theorem dL_law_403 : decode cL_law 403 = .ok (.iload 8, 2) := by decide +kernel
theorem dL_law_405 : decode cL_law 405 = .ok (.bipush 6, 2) := by decide +kernel
theorem dL_law_407 : decode cL_law 407 = .ok (.if_icmp .ne 73, 3) := by decide +kernel
theorem dL_law_410 : decode cL_law 410 = .ok (.aload_n 1, 1) := by decide +kernel
theorem dL_law_411 : decode cL_law 411 = .ok (.iload 6, 2) := by decide +kernel
theorem dL_law_413 : decode cL_law 413 = .ok (.iload 5, 2) := by decide +kernel
theorem dL_law_415 : decode cL_law 415 = .ok (.bipush 9, 2) := by decide +kernel
theorem dL_law_417 : decode cL_law 417 = .ok (.ishr, 1) := by decide +kernel
theorem dL_law_418 : decode cL_law 418 = .ok (.iconst 3, 1) := by decide +kernel
theorem dL_law_419 : decode cL_law 419 = .ok (.invokestatic 100, 3) := by decide +kernel
theorem dL_law_422 : decode cL_law 422 = .ok (.iload 5, 2) := by decide +kernel
theorem dL_law_424 : decode cL_law 424 = .ok (.bipush 12, 2) := by decide +kernel
theorem dL_law_426 : decode cL_law 426 = .ok (.ishr, 1) := by decide +kernel
theorem dL_law_427 : decode cL_law 427 = .ok (.iconst 4, 1) := by decide +kernel
theorem dL_law_428 : decode cL_law 428 = .ok (.invokestatic 100, 3) := by decide +kernel
theorem dL_law_431 : decode cL_law 431 = .ok (.invokevirtual 83, 3) := by decide +kernel
theorem dL_law_434 : decode cL_law 434 = .ok (.istore 12, 2) := by decide +kernel
theorem dL_law_436 : decode cL_law 436 = .ok (.iload 12, 2) := by decide +kernel
theorem dL_law_438 : decode cL_law 438 = .ok (.ifCond .gt 17, 3) := by decide +kernel
theorem dL_law_441 : decode cL_law 441 = .ok (.iload 12, 2) := by decide +kernel
theorem dL_law_443 : decode cL_law 443 = .ok (.ldc 64, 2) := by decide +kernel
theorem dL_law_445 : decode cL_law 445 = .ok (.if_icmp .eq 10, 3) := by decide +kernel
theorem dL_law_448 : decode cL_law 448 = .ok (.iload 12, 2) := by decide +kernel
theorem dL_law_450 : decode cL_law 450 = .ok (.ldc 65, 2) := by decide +kernel
theorem dL_law_452 : decode cL_law 452 = .ok (.if_icmp .ne 7, 3) := by decide +kernel
theorem dL_law_455 : decode cL_law 455 = .ok (.iconst 1, 1) := by decide +kernel
theorem dL_law_456 : decode cL_law 456 = .ok (.goto 4, 3) := by decide +kernel
theorem dL_law_459 : decode cL_law 459 = .ok (.iconst 0, 1) := by decide +kernel
theorem dL_law_460 : decode cL_law 460 = .ok (.istore 11, 2) := by decide +kernel
theorem dL_law_462 : decode cL_law 462 = .ok (.iload_n 3, 1) := by decide +kernel
theorem dL_law_463 : decode cL_law 463 = .ok (.ifCond .ne 8, 3) := by decide +kernel
theorem dL_law_466 : decode cL_law 466 = .ok (.iload 10, 2) := by decide +kernel
theorem dL_law_468 : decode cL_law 468 = .ok (.ifCond .le 7, 3) := by decide +kernel
theorem dL_law_471 : decode cL_law 471 = .ok (.iconst 1, 1) := by decide +kernel
theorem dL_law_472 : decode cL_law 472 = .ok (.goto 4, 3) := by decide +kernel
theorem dL_law_475 : decode cL_law 475 = .ok (.iconst 0, 1) := by decide +kernel
theorem dL_law_476 : decode cL_law 476 = .ok (.istore_n 3, 1) := by decide +kernel
theorem dL_law_477 : decode cL_law 477 = .ok (.goto 289, 3) := by decide +kernel
theorem dL_law_480 : decode cL_law 480 = .ok (.iload 8, 2) := by decide +kernel
theorem dL_law_482 : decode cL_law 482 = .ok (.bipush 7, 2) := by decide +kernel
theorem dL_law_484 : decode cL_law 484 = .ok (.if_icmp .ne 55, 3) := by decide +kernel
theorem dL_law_487 : decode cL_law 487 = .ok (.aload_n 1, 1) := by decide +kernel
theorem dL_law_488 : decode cL_law 488 = .ok (.iload 6, 2) := by decide +kernel
theorem dL_law_490 : decode cL_law 490 = .ok (.invokevirtual 66, 3) := by decide +kernel
theorem dL_law_493 : decode cL_law 493 = .ok (.istore 12, 2) := by decide +kernel
theorem dL_law_495 : decode cL_law 495 = .ok (.iload 12, 2) := by decide +kernel
theorem dL_law_497 : decode cL_law 497 = .ok (.ifCond .gt 17, 3) := by decide +kernel
theorem dL_law_500 : decode cL_law 500 = .ok (.iload 12, 2) := by decide +kernel
theorem dL_law_502 : decode cL_law 502 = .ok (.ldc 64, 2) := by decide +kernel
theorem dL_law_504 : decode cL_law 504 = .ok (.if_icmp .eq 10, 3) := by decide +kernel
theorem dL_law_507 : decode cL_law 507 = .ok (.iload 12, 2) := by decide +kernel
theorem dL_law_509 : decode cL_law 509 = .ok (.ldc 65, 2) := by decide +kernel
theorem dL_law_511 : decode cL_law 511 = .ok (.if_icmp .ne 7, 3) := by decide +kernel
theorem dL_law_514 : decode cL_law 514 = .ok (.iconst 1, 1) := by decide +kernel
theorem dL_law_515 : decode cL_law 515 = .ok (.goto 4, 3) := by decide +kernel
theorem dL_law_518 : decode cL_law 518 = .ok (.iconst 0, 1) := by decide +kernel
theorem dL_law_519 : decode cL_law 519 = .ok (.istore 11, 2) := by decide +kernel
theorem dL_law_521 : decode cL_law 521 = .ok (.iload_n 3, 1) := by decide +kernel
theorem dL_law_522 : decode cL_law 522 = .ok (.ifCond .ne 8, 3) := by decide +kernel
theorem dL_law_525 : decode cL_law 525 = .ok (.iload 10, 2) := by decide +kernel
theorem dL_law_527 : decode cL_law 527 = .ok (.ifCond .le 7, 3) := by decide +kernel
theorem dL_law_530 : decode cL_law 530 = .ok (.iconst 1, 1) := by decide +kernel
theorem dL_law_531 : decode cL_law 531 = .ok (.goto 4, 3) := by decide +kernel
theorem dL_law_534 : decode cL_law 534 = .ok (.iconst 0, 1) := by decide +kernel
theorem dL_law_535 : decode cL_law 535 = .ok (.istore_n 3, 1) := by decide +kernel
theorem dL_law_536 : decode cL_law 536 = .ok (.goto 230, 3) := by decide +kernel
theorem dL_law_539 : decode cL_law 539 = .ok (.iload 6, 2) := by decide +kernel
theorem dL_law_541 : decode cL_law 541 = .ok (.iload 7, 2) := by decide +kernel
theorem dL_law_543 : decode cL_law 543 = .ok (.if_icmp .eq 166, 3) := by decide +kernel
theorem dL_law_546 : decode cL_law 546 = .ok (.iload 8, 2) := by decide +kernel
theorem dL_law_548 : decode cL_law 548 = .ok (.bipush 11, 2) := by decide +kernel
theorem dL_law_550 : decode cL_law 550 = .ok (.if_icmp .ge 159, 3) := by decide +kernel
theorem dL_law_553 : decode cL_law 553 = .ok (.aload_n 1, 1) := by decide +kernel
theorem dL_law_554 : decode cL_law 554 = .ok (.iload 6, 2) := by decide +kernel
theorem dL_law_556 : decode cL_law 556 = .ok (.iload 7, 2) := by decide +kernel
theorem dL_law_558 : decode cL_law 558 = .ok (.invokevirtual 52, 3) := by decide +kernel
theorem dL_law_561 : decode cL_law 561 = .ok (.istore 12, 2) := by decide +kernel
theorem dL_law_563 : decode cL_law 563 = .ok (.iload 8, 2) := by decide +kernel
theorem dL_law_565 : decode cL_law 565 = .ok (.bipush 8, 2) := by decide +kernel
theorem dL_law_567 : decode cL_law 567 = .ok (.if_icmp .ne 14, 3) := by decide +kernel
theorem dL_law_570 : decode cL_law 570 = .ok (.aload_n 1, 1) := by decide +kernel
theorem dL_law_571 : decode cL_law 571 = .ok (.iload 6, 2) := by decide +kernel
theorem dL_law_573 : decode cL_law 573 = .ok (.iload 7, 2) := by decide +kernel
theorem dL_law_575 : decode cL_law 575 = .ok (.invokevirtual 89, 3) := by decide +kernel
theorem dL_law_578 : decode cL_law 578 = .ok (.goto 11, 3) := by decide +kernel
theorem dL_law_581 : decode cL_law 581 = .ok (.aload_n 1, 1) := by decide +kernel
theorem dL_law_582 : decode cL_law 582 = .ok (.iload 6, 2) := by decide +kernel
theorem dL_law_584 : decode cL_law 584 = .ok (.iload 7, 2) := by decide +kernel
theorem dL_law_586 : decode cL_law 586 = .ok (.invokevirtual 86, 3) := by decide +kernel
theorem dL_law_589 : decode cL_law 589 = .ok (.istore 13, 2) := by decide +kernel
theorem dL_law_591 : decode cL_law 591 = .ok (.iload 12, 2) := by decide +kernel
