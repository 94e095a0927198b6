theorem dL_isShapes_398 : decode cL_isShapes 398 = .ok (.iload 9, 2) := by decide +kernel
theorem dL_isShapes_400 : decode cL_isShapes 400 = .ok (.ifCond .ge 7, 3) := by decide +kernel
theorem dL_isShapes_403 : decode cL_isShapes 403 = .ok (.iconst 2, 1) := by decide +kernel
theorem dL_isShapes_404 : decode cL_isShapes 404 = .ok (.goto 4, 3) := by decide +kernel
theorem dL_isShapes_407 : decode cL_isShapes 407 = .ok (.iconst 1, 1) := by decide +kernel
theorem dL_isShapes_408 : decode cL_isShapes 408 = .ok (.iconst 1, 1) := by decide +kernel
theorem dL_isShapes_409 : decode cL_isShapes 409 = .ok (.iload 10, 2) := by decide +kernel
theorem dL_isShapes_411 : decode cL_isShapes 411 = .ok (.iconst 3, 1) := by decide +kernel
theorem dL_isShapes_412 : decode cL_isShapes 412 = .ok (.irem, 1) := by decide +kernel
theorem dL_isShapes_413 : decode cL_isShapes 413 = .ok (.iadd, 1) := by decide +kernel
theorem dL_isShapes_414 : decode cL_isShapes 414 = .ok (.invokestatic 56, 3) := by decide +kernel
theorem dL_isShapes_417 : decode cL_isShapes 417 = .ok (.istore 16, 2) := by decide +kernel
theorem dL_isShapes_419 : decode cL_isShapes 419 = .ok (.iload 16, 2) := by decide +kernel
theorem dL_isShapes_421 : decode cL_isShapes 421 = .ok (.iconst (-1), 1) := by decide +kernel
theorem dL_isShapes_422 : decode cL_isShapes 422 = .ok (.if_icmp .eq 10, 3) := by decide +kernel
theorem dL_isShapes_425 : decode cL_isShapes 425 = .ok (.iload 16, 2) := by decide +kernel
theorem dL_isShapes_427 : decode cL_isShapes 427 = .ok (.iload 5, 2) := by decide +kernel
theorem dL_isShapes_429 : decode cL_isShapes 429 = .ok (.if_icmp .ne 20, 3) := by decide +kernel
theorem dL_isShapes_432 : decode cL_isShapes 432 = .ok (.aload_n 0, 1) := by decide +kernel
theorem dL_isShapes_433 : decode cL_isShapes 433 = .ok (.iconst 0, 1) := by decide +kernel
theorem dL_isShapes_434 : decode cL_isShapes 434 = .ok (.iload 10, 2) := by decide +kernel
theorem dL_isShapes_436 : decode cL_isShapes 436 = .ok (.invokevirtual 46, 3) := by decide +kernel
theorem dL_isShapes_439 : decode cL_isShapes 439 = .ok (.lload 14, 2) := by decide +kernel
theorem dL_isShapes_441 : decode cL_isShapes 441 = .ok (.lcmp, 1) := by decide +kernel
theorem dL_isShapes_442 : decode cL_isShapes 442 = .ok (.ifCond .ne 7, 3) := by decide +kernel
theorem dL_isShapes_445 : decode cL_isShapes 445 = .ok (.iconst 1, 1) := by decide +kernel
theorem dL_isShapes_446 : decode cL_isShapes 446 = .ok (.goto 4, 3) := by decide +kernel
theorem dL_isShapes_449 : decode cL_isShapes 449 = .ok (.iconst 0, 1) := by decide +kernel
theorem dL_isShapes_450 : decode cL_isShapes 450 = .ok (.istore 4, 2) := by decide +kernel
theorem dL_isShapes_452 : decode cL_isShapes 452 = .ok (.iload 5, 2) := by decide +kernel
theorem dL_isShapes_454 : decode cL_isShapes 454 = .ok (.iload 16, 2) := by decide +kernel
theorem dL_isShapes_456 : decode cL_isShapes 456 = .ok (.ifCond .lt 7, 3) := by decide +kernel
theorem dL_isShapes_459 : decode cL_isShapes 459 = .ok (.iconst 1, 1) := by decide +kernel
theorem dL_isShapes_460 : decode cL_isShapes 460 = .ok (.goto 4, 3) := by decide +kernel
theorem dL_isShapes_463 : decode cL_isShapes 463 = .ok (.iconst 0, 1) := by decide +kernel
theorem dL_isShapes_464 : decode cL_isShapes 464 = .ok (.iadd, 1) := by decide +kernel
theorem dL_isShapes_465 : decode cL_isShapes 465 = .ok (.istore 5, 2) := by decide +kernel
theorem dL_isShapes_467 : decode cL_isShapes 467 = .ok (.goto 68, 3) := by decide +kernel
theorem dL_isShapes_470 : decode cL_isShapes 470 = .ok (.aload_n 0, 1) := by decide +kernel
theorem dL_isShapes_471 : decode cL_isShapes 471 = .ok (.iconst 0, 1) := by decide +kernel
theorem dL_isShapes_472 : decode cL_isShapes 472 = .ok (.iconst 1, 1) := by decide +kernel
theorem dL_isShapes_473 : decode cL_isShapes 473 = .ok (.iconst 1, 1) := by decide +kernel
theorem dL_isShapes_474 : decode cL_isShapes 474 = .ok (.invokevirtual 50, 3) := by decide +kernel
theorem dL_isShapes_477 : decode cL_isShapes 477 = .ok (.lstore 16, 2) := by decide +kernel
theorem dL_isShapes_479 : decode cL_isShapes 479 = .ok (.aload_n 0, 1) := by decide +kernel
theorem dL_isShapes_480 : decode cL_isShapes 480 = .ok (.iload 10, 2) := by decide +kernel
theorem dL_isShapes_482 : decode cL_isShapes 482 = .ok (.iconst 3, 1) := by decide +kernel
theorem dL_isShapes_483 : decode cL_isShapes 483 = .ok (.irem, 1) := by decide +kernel
theorem dL_isShapes_484 : decode cL_isShapes 484 = .ok (.invokestatic 60, 3) := by decide +kernel
theorem dL_isShapes_487 : decode cL_isShapes 487 = .ok (.istore 18, 2) := by decide +kernel
theorem dL_isShapes_489 : decode cL_isShapes 489 = .ok (.iload 18, 2) := by decide +kernel
theorem dL_isShapes_491 : decode cL_isShapes 491 = .ok (.iconst (-1), 1) := by decide +kernel
theorem dL_isShapes_492 : decode cL_isShapes 492 = .ok (.if_icmp .eq 10, 3) := by decide +kernel
theorem dL_isShapes_495 : decode cL_isShapes 495 = .ok (.iload 18, 2) := by decide +kernel
theorem dL_isShapes_497 : decode cL_isShapes 497 = .ok (.iload 5, 2) := by decide +kernel
theorem dL_isShapes_499 : decode cL_isShapes 499 = .ok (.if_icmp .ne 33, 3) := by decide +kernel
theorem dL_isShapes_502 : decode cL_isShapes 502 = .ok (.aload_n 0, 1) := by decide +kernel
theorem dL_isShapes_503 : decode cL_isShapes 503 = .ok (.iconst 0, 1) := by decide +kernel
theorem dL_isShapes_504 : decode cL_isShapes 504 = .ok (.iload 10, 2) := by decide +kernel
theorem dL_isShapes_506 : decode cL_isShapes 506 = .ok (.invokevirtual 46, 3) := by decide +kernel
theorem dL_isShapes_509 : decode cL_isShapes 509 = .ok (.lload 14, 2) := by decide +kernel
theorem dL_isShapes_511 : decode cL_isShapes 511 = .ok (.lcmp, 1) := by decide +kernel
theorem dL_isShapes_512 : decode cL_isShapes 512 = .ok (.ifCond .ne 20, 3) := by decide +kernel
theorem dL_isShapes_515 : decode cL_isShapes 515 = .ok (.aload_n 0, 1) := by decide +kernel
theorem dL_isShapes_516 : decode cL_isShapes 516 = .ok (.iconst 0, 1) := by decide +kernel
theorem dL_isShapes_517 : decode cL_isShapes 517 = .ok (.iconst 1, 1) := by decide +kernel
theorem dL_isShapes_518 : decode cL_isShapes 518 = .ok (.iconst 1, 1) := by decide +kernel
theorem dL_isShapes_519 : decode cL_isShapes 519 = .ok (.invokevirtual 50, 3) := by decide +kernel
theorem dL_isShapes_522 : decode cL_isShapes 522 = .ok (.lload 16, 2) := by decide +kernel
theorem dL_isShapes_524 : decode cL_isShapes 524 = .ok (.lcmp, 1) := by decide +kernel
theorem dL_isShapes_525 : decode cL_isShapes 525 = .ok (.ifCond .ne 7, 3) := by decide +kernel
theorem dL_isShapes_528 : decode cL_isShapes 528 = .ok (.iconst 1, 1) := by decide +kernel
theorem dL_isShapes_529 : decode cL_isShapes 529 = .ok (.goto 4, 3) := by decide +kernel
theorem dL_isShapes_532 : decode cL_isShapes 532 = .ok (.iconst 0, 1) := by decide +kernel
theorem dL_isShapes_533 : decode cL_isShapes 533 = .ok (.istore 4, 2) := by decide +kernel
theorem dL_isShapes_535 : decode cL_isShapes 535 = .ok (.iload 4, 2) := by decide +kernel
theorem dL_isShapes_537 : decode cL_isShapes 537 = .ok (.ifCond .eq 83, 3) := by decide +kernel
theorem dL_isShapes_540 : decode cL_isShapes 540 = .ok (.aload_n 0, 1) := by decide +kernel
theorem dL_isShapes_541 : decode cL_isShapes 541 = .ok (.iconst 0, 1) := by decide +kernel
theorem dL_isShapes_542 : decode cL_isShapes 542 = .ok (.invokevirtual 42, 3) := by decide +kernel
theorem dL_isShapes_545 : decode cL_isShapes 545 = .ok (.ifCond .eq 75, 3) := by decide +kernel
theorem dL_isShapes_548 : decode cL_isShapes 548 = .ok (.aload_n 0, 1) := by decide +kernel
theorem dL_isShapes_549 : decode cL_isShapes 549 = .ok (.iconst 0, 1) := by decide +kernel
theorem dL_isShapes_550 : decode cL_isShapes 550 = .ok (.iload 10, 2) := by decide +kernel
theorem dL_isShapes_552 : decode cL_isShapes 552 = .ok (.invokevirtual 64, 3) := by decide +kernel
theorem dL_isShapes_555 : decode cL_isShapes 555 = .ok (.aload_n 0, 1) := by decide +kernel
theorem dL_isShapes_556 : decode cL_isShapes 556 = .ok (.iconst 0, 1) := by decide +kernel
theorem dL_isShapes_557 : decode cL_isShapes 557 = .ok (.iload 10, 2) := by decide +kernel
theorem dL_isShapes_559 : decode cL_isShapes 559 = .ok (.invokevirtual 46, 3) := by decide +kernel
theorem dL_isShapes_562 : decode cL_isShapes 562 = .ok (.lcmp, 1) := by decide +kernel
theorem dL_isShapes_563 : decode cL_isShapes 563 = .ok (.ifCond .ne 57, 3) := by decide +kernel
theorem dL_isShapes_566 : decode cL_isShapes 566 = .ok (.aload_n 0, 1) := by decide +kernel
theorem dL_isShapes_567 : decode cL_isShapes 567 = .ok (.iconst 0, 1) := by decide +kernel
theorem dL_isShapes_568 : decode cL_isShapes 568 = .ok (.iconst 1, 1) := by decide +kernel
theorem dL_isShapes_569 : decode cL_isShapes 569 = .ok (.iconst 0, 1) := by decide +kernel
theorem dL_isShapes_570 : decode cL_isShapes 570 = .ok (.invokevirtual 50, 3) := by decide +kernel
theorem dL_isShapes_573 : decode cL_isShapes 573 = .ok (.aload_n 0, 1) := by decide +kernel
theorem dL_isShapes_574 : decode cL_isShapes 574 = .ok (.iconst 0, 1) := by decide +kernel
theorem dL_isShapes_575 : decode cL_isShapes 575 = .ok (.iconst 0, 1) := by decide +kernel
theorem dL_isShapes_576 : decode cL_isShapes 576 = .ok (.invokevirtual 46, 3) := by decide +kernel
theorem dL_isShapes_579 : decode cL_isShapes 579 = .ok (.lcmp, 1) := by decide +kernel
theorem dL_isShapes_580 : decode cL_isShapes 580 = .ok (.ifCond .ne 40, 3) := by decide +kernel
theorem dL_isShapes_583 : decode cL_isShapes 583 = .ok (.aload_n 0, 1) := by decide +kernel
theorem dL_isShapes_584 : decode cL_isShapes 584 = .ok (.iconst 0, 1) := by decide +kernel
theorem dL_isShapes_585 : decode cL_isShapes 585 = .ok (.iconst 1, 1) := by decide +kernel
theorem dL_isShapes_586 : decode cL_isShapes 586 = .ok (.iconst 1, 1) := by decide +kernel
theorem dL_isShapes_587 : decode cL_isShapes 587 = .ok (.invokevirtual 50, 3) := by decide +kernel
theorem dL_isShapes_590 : decode cL_isShapes 590 = .ok (.aload_n 0, 1) := by decide +kernel
theorem dL_isShapes_591 : decode cL_isShapes 591 = .ok (.iconst 0, 1) := by decide +kernel
theorem dL_isShapes_592 : decode cL_isShapes 592 = .ok (.iconst 1, 1) := by decide +kernel
theorem dL_isShapes_593 : decode cL_isShapes 593 = .ok (.iconst 0, 1) := by decide +kernel
theorem dL_isShapes_594 : decode cL_isShapes 594 = .ok (.invokevirtual 50, 3) := by decide +kernel
theorem dL_isShapes_597 : decode cL_isShapes 597 = .ok (.lcmp, 1) := by decide +kernel
theorem dL_isShapes_598 : decode cL_isShapes 598 = .ok (.ifCond .gt 22, 3) := by decide +kernel
theorem dL_isShapes_601 : decode cL_isShapes 601 = .ok (.aload_n 0, 1) := by decide +kernel
theorem dL_isShapes_602 : decode cL_isShapes 602 = .ok (.iload 5, 2) := by decide +kernel
theorem dL_isShapes_604 : decode cL_isShapes 604 = .ok (.iload 10, 2) := by decide +kernel
theorem dL_isShapes_606 : decode cL_isShapes 606 = .ok (.iload 7, 2) := by decide +kernel
theorem dL_isShapes_608 : decode cL_isShapes 608 = .ok (.iload 8, 2) := by decide +kernel
theorem dL_isShapes_610 : decode cL_isShapes 610 = .ok (.invokestatic 67, 3) := by decide +kernel
theorem dL_isShapes_613 : decode cL_isShapes 613 = .ok (.ifCond .eq 7, 3) := by decide +kernel
theorem dL_isShapes_616 : decode cL_isShapes 616 = .ok (.iconst 1, 1) := by decide +kernel
theorem dL_isShapes_617 : decode cL_isShapes 617 = .ok (.goto 4, 3) := by decide +kernel
theorem dL_isShapes_620 : decode cL_isShapes 620 = .ok (.iconst 0, 1) := by decide +kernel
theorem dL_isShapes_621 : decode cL_isShapes 621 = .ok (.istore 4, 2) := by decide +kernel
theorem dL_isShapes_623 : decode cL_isShapes 623 = .ok (.iinc 6 1, 3) := by decide +kernel
theorem dL_isShapes_626 : decode cL_isShapes 626 = .ok (.goto (-460), 3) := by decide +kernel
theorem dL_isShapes_629 : decode cL_isShapes 629 = .ok (.iload 4, 2) := by decide +kernel
theorem dL_isShapes_631 : decode cL_isShapes 631 = .ok (.ireturn, 1) := by decide +kernel
theorem dL_isBest_0 : decode cL_isBest 0 = .ok (.aload_n 0, 1) := by decide +kernel
theorem dL_isBest_1 : decode cL_isBest 1 = .ok (.iload_n 2, 1) := by decide +kernel
theorem dL_isBest_2 : decode cL_isBest 2 = .ok (.iload_n 3, 1) := by decide +kernel
theorem dL_isBest_3 : decode cL_isBest 3 = .ok (.iload 4, 2) := by decide +kernel
theorem dL_isBest_5 : decode cL_isBest 5 = .ok (.iconst 0, 1) := by decide +kernel
theorem dL_isBest_6 : decode cL_isBest 6 = .ok (.invokestatic 71, 3) := by decide +kernel
theorem dL_isBest_9 : decode cL_isBest 9 = .ok (.istore 5, 2) := by decide +kernel
theorem dL_isBest_11 : decode cL_isBest 11 = .ok (.iload 5, 2) := by decide +kernel
theorem dL_isBest_13 : decode cL_isBest 13 = .ok (.ldc 24, 2) := by decide +kernel
theorem dL_isBest_15 : decode cL_isBest 15 = .ok (.if_icmp .ne 20, 3) := by decide +kernel
theorem dL_isBest_18 : decode cL_isBest 18 = .ok (.aload_n 0, 1) := by decide +kernel
theorem dL_isBest_19 : decode cL_isBest 19 = .ok (.iconst 0, 1) := by decide +kernel
theorem dL_isBest_20 : decode cL_isBest 20 = .ok (.iload_n 2, 1) := by decide +kernel
theorem dL_isBest_21 : decode cL_isBest 21 = .ok (.invokevirtual 46, 3) := by decide +kernel
theorem dL_isBest_24 : decode cL_isBest 24 = .ok (.lconst 0, 1) := by decide +kernel
theorem dL_isBest_25 : decode cL_isBest 25 = .ok (.lcmp, 1) := by decide +kernel
theorem dL_isBest_26 : decode cL_isBest 26 = .ok (.ifCond .ne 7, 3) := by decide +kernel
theorem dL_isBest_29 : decode cL_isBest 29 = .ok (.iconst 1, 1) := by decide +kernel
theorem dL_isBest_30 : decode cL_isBest 30 = .ok (.goto 4, 3) := by decide +kernel
theorem dL_isBest_33 : decode cL_isBest 33 = .ok (.iconst 0, 1) := by decide +kernel
theorem dL_isBest_34 : decode cL_isBest 34 = .ok (.ireturn, 1) := by decide +kernel
theorem dL_isBest_35 : decode cL_isBest 35 = .ok (.aload_n 0, 1) := by decide +kernel
theorem dL_isBest_36 : decode cL_isBest 36 = .ok (.iconst 0, 1) := by decide +kernel
theorem dL_isBest_37 : decode cL_isBest 37 = .ok (.iload_n 2, 1) := by decide +kernel
theorem dL_isBest_38 : decode cL_isBest 38 = .ok (.iload_n 3, 1) := by decide +kernel
theorem dL_isBest_39 : decode cL_isBest 39 = .ok (.iload 4, 2) := by decide +kernel
theorem dL_isBest_41 : decode cL_isBest 41 = .ok (.iconst 1, 1) := by decide +kernel
theorem dL_isBest_42 : decode cL_isBest 42 = .ok (.invokevirtual 20, 3) := by decide +kernel
theorem dL_isBest_45 : decode cL_isBest 45 = .ok (.istore 6, 2) := by decide +kernel
theorem dL_isBest_47 : decode cL_isBest 47 = .ok (.aload_n 0, 1) := by decide +kernel
theorem dL_isBest_48 : decode cL_isBest 48 = .ok (.iconst 0, 1) := by decide +kernel
theorem dL_isBest_49 : decode cL_isBest 49 = .ok (.iload_n 2, 1) := by decide +kernel
theorem dL_isBest_50 : decode cL_isBest 50 = .ok (.iload_n 3, 1) := by decide +kernel
theorem dL_isBest_51 : decode cL_isBest 51 = .ok (.iload 4, 2) := by decide +kernel
theorem dL_isBest_53 : decode cL_isBest 53 = .ok (.iconst 2, 1) := by decide +kernel
theorem dL_isBest_54 : decode cL_isBest 54 = .ok (.invokevirtual 20, 3) := by decide +kernel
theorem dL_isBest_57 : decode cL_isBest 57 = .ok (.istore 7, 2) := by decide +kernel
theorem dL_isBest_59 : decode cL_isBest 59 = .ok (.iload_n 3, 1) := by decide +kernel
theorem dL_isBest_60 : decode cL_isBest 60 = .ok (.iload 6, 2) := by decide +kernel
theorem dL_isBest_62 : decode cL_isBest 62 = .ok (.imul, 1) := by decide +kernel
theorem dL_isBest_63 : decode cL_isBest 63 = .ok (.iload 4, 2) := by decide +kernel
theorem dL_isBest_65 : decode cL_isBest 65 = .ok (.iload 7, 2) := by decide +kernel
theorem dL_isBest_67 : decode cL_isBest 67 = .ok (.imul, 1) := by decide +kernel
theorem dL_isBest_68 : decode cL_isBest 68 = .ok (.iadd, 1) := by decide +kernel
theorem dL_isBest_69 : decode cL_isBest 69 = .ok (.iload 5, 2) := by decide +kernel
theorem dL_isBest_71 : decode cL_isBest 71 = .ok (.if_icmp .ne 18, 3) := by decide +kernel
theorem dL_isBest_74 : decode cL_isBest 74 = .ok (.aload_n 0, 1) := by decide +kernel
theorem dL_isBest_75 : decode cL_isBest 75 = .ok (.iconst 0, 1) := by decide +kernel
theorem dL_isBest_76 : decode cL_isBest 76 = .ok (.iload_n 2, 1) := by decide +kernel
theorem dL_isBest_77 : decode cL_isBest 77 = .ok (.invokevirtual 46, 3) := by decide +kernel
theorem dL_isBest_80 : decode cL_isBest 80 = .ok (.lconst 0, 1) := by decide +kernel
theorem dL_isBest_81 : decode cL_isBest 81 = .ok (.lcmp, 1) := by decide +kernel
theorem dL_isBest_82 : decode cL_isBest 82 = .ok (.ifCond .le 7, 3) := by decide +kernel
theorem dL_isBest_85 : decode cL_isBest 85 = .ok (.iconst 1, 1) := by decide +kernel
theorem dL_isBest_86 : decode cL_isBest 86 = .ok (.goto 4, 3) := by decide +kernel
theorem dL_isBest_89 : decode cL_isBest 89 = .ok (.iconst 0, 1) := by decide +kernel
theorem dL_isBest_90 : decode cL_isBest 90 = .ok (.istore 8, 2) := by decide +kernel
theorem dL_isBest_92 : decode cL_isBest 92 = .ok (.iconst 0, 1) := by decide +kernel
theorem dL_isBest_93 : decode cL_isBest 93 = .ok (.istore 9, 2) := by decide +kernel
theorem dL_isBest_95 : decode cL_isBest 95 = .ok (.iload 9, 2) := by decide +kernel
theorem dL_isBest_97 : decode cL_isBest 97 = .ok (.iload_n 1, 1) := by decide +kernel
theorem dL_isBest_98 : decode cL_isBest 98 = .ok (.if_icmp .ge 66, 3) := by decide +kernel
theorem dL_isBest_101 : decode cL_isBest 101 = .ok (.iload 8, 2) := by decide +kernel
theorem dL_isBest_103 : decode cL_isBest 103 = .ok (.ifCond .eq 52, 3) := by decide +kernel
theorem dL_isBest_106 : decode cL_isBest 106 = .ok (.aload_n 0, 1) := by decide +kernel
theorem dL_isBest_107 : decode cL_isBest 107 = .ok (.iconst 0, 1) := by decide +kernel
theorem dL_isBest_108 : decode cL_isBest 108 = .ok (.iload 9, 2) := by decide +kernel
theorem dL_isBest_110 : decode cL_isBest 110 = .ok (.iconst 0, 1) := by decide +kernel
theorem dL_isBest_111 : decode cL_isBest 111 = .ok (.invokevirtual 74, 3) := by decide +kernel
theorem dL_isBest_114 : decode cL_isBest 114 = .ok (.iload 6, 2) := by decide +kernel
theorem dL_isBest_116 : decode cL_isBest 116 = .ok (.imul, 1) := by decide +kernel
theorem dL_isBest_117 : decode cL_isBest 117 = .ok (.aload_n 0, 1) := by decide +kernel
theorem dL_isBest_118 : decode cL_isBest 118 = .ok (.iconst 0, 1) := by decide +kernel
theorem dL_isBest_119 : decode cL_isBest 119 = .ok (.iload 9, 2) := by decide +kernel
theorem dL_isBest_121 : decode cL_isBest 121 = .ok (.iconst 1, 1) := by decide +kernel
theorem dL_isBest_122 : decode cL_isBest 122 = .ok (.invokevirtual 74, 3) := by decide +kernel
theorem dL_isBest_125 : decode cL_isBest 125 = .ok (.iload 7, 2) := by decide +kernel
theorem dL_isBest_127 : decode cL_isBest 127 = .ok (.imul, 1) := by decide +kernel
theorem dL_isBest_128 : decode cL_isBest 128 = .ok (.iadd, 1) := by decide +kernel
theorem dL_isBest_129 : decode cL_isBest 129 = .ok (.aload_n 0, 1) := by decide +kernel
theorem dL_isBest_130 : decode cL_isBest 130 = .ok (.iconst 0, 1) := by decide +kernel
theorem dL_isBest_131 : decode cL_isBest 131 = .ok (.iload 9, 2) := by decide +kernel
theorem dL_isBest_133 : decode cL_isBest 133 = .ok (.iconst 2, 1) := by decide +kernel
theorem dL_isBest_134 : decode cL_isBest 134 = .ok (.invokevirtual 74, 3) := by decide +kernel
theorem dL_isBest_137 : decode cL_isBest 137 = .ok (.aload_n 0, 1) := by decide +kernel
theorem dL_isBest_138 : decode cL_isBest 138 = .ok (.iconst 0, 1) := by decide +kernel
theorem dL_isBest_139 : decode cL_isBest 139 = .ok (.iload 9, 2) := by decide +kernel
theorem dL_isBest_141 : decode cL_isBest 141 = .ok (.iconst 3, 1) := by decide +kernel
theorem dL_isBest_142 : decode cL_isBest 142 = .ok (.invokevirtual 74, 3) := by decide +kernel
theorem dL_isBest_145 : decode cL_isBest 145 = .ok (.iload_n 2, 1) := by decide +kernel
theorem dL_isBest_146 : decode cL_isBest 146 = .ok (.imul, 1) := by decide +kernel
theorem dL_isBest_147 : decode cL_isBest 147 = .ok (.iadd, 1) := by decide +kernel
theorem dL_isBest_148 : decode cL_isBest 148 = .ok (.if_icmp .gt 7, 3) := by decide +kernel
theorem dL_isBest_151 : decode cL_isBest 151 = .ok (.iconst 1, 1) := by decide +kernel
theorem dL_isBest_152 : decode cL_isBest 152 = .ok (.goto 4, 3) := by decide +kernel
theorem dL_isBest_155 : decode cL_isBest 155 = .ok (.iconst 0, 1) := by decide +kernel
theorem dL_isBest_156 : decode cL_isBest 156 = .ok (.istore 8, 2) := by decide +kernel
theorem dL_isBest_158 : decode cL_isBest 158 = .ok (.iinc 9 1, 3) := by decide +kernel
theorem dL_isBest_161 : decode cL_isBest 161 = .ok (.goto (-66), 3) := by decide +kernel
theorem dL_isBest_164 : decode cL_isBest 164 = .ok (.iload 8, 2) := by decide +kernel
theorem dL_isBest_166 : decode cL_isBest 166 = .ok (.ifCond .eq 37, 3) := by decide +kernel
theorem dL_isBest_169 : decode cL_isBest 169 = .ok (.aload_n 0, 1) := by decide +kernel
theorem dL_isBest_170 : decode cL_isBest 170 = .ok (.iconst 0, 1) := by decide +kernel
theorem dL_isBest_171 : decode cL_isBest 171 = .ok (.iload_n 2, 1) := by decide +kernel
theorem dL_isBest_172 : decode cL_isBest 172 = .ok (.iload_n 3, 1) := by decide +kernel
theorem dL_isBest_173 : decode cL_isBest 173 = .ok (.ineg, 1) := by decide +kernel
theorem dL_isBest_174 : decode cL_isBest 174 = .ok (.iload 4, 2) := by decide +kernel
theorem dL_isBest_176 : decode cL_isBest 176 = .ok (.ineg, 1) := by decide +kernel
theorem dL_isBest_177 : decode cL_isBest 177 = .ok (.iconst 0, 1) := by decide +kernel
theorem dL_isBest_178 : decode cL_isBest 178 = .ok (.invokevirtual 20, 3) := by decide +kernel
theorem dL_isBest_181 : decode cL_isBest 181 = .ok (.iload 5, 2) := by decide +kernel
theorem dL_isBest_183 : decode cL_isBest 183 = .ok (.ineg, 1) := by decide +kernel
theorem dL_isBest_184 : decode cL_isBest 184 = .ok (.if_icmp .lt 19, 3) := by decide +kernel
theorem dL_isBest_187 : decode cL_isBest 187 = .ok (.aload_n 0, 1) := by decide +kernel
theorem dL_isBest_188 : decode cL_isBest 188 = .ok (.iconst 0, 1) := by decide +kernel
theorem dL_isBest_189 : decode cL_isBest 189 = .ok (.iload_n 2, 1) := by decide +kernel
theorem dL_isBest_190 : decode cL_isBest 190 = .ok (.iconst 0, 1) := by decide +kernel
theorem dL_isBest_191 : decode cL_isBest 191 = .ok (.iconst 0, 1) := by decide +kernel
theorem dL_isBest_192 : decode cL_isBest 192 = .ok (.iconst 0, 1) := by decide +kernel
theorem dL_isBest_193 : decode cL_isBest 193 = .ok (.invokevirtual 20, 3) := by decide +kernel
theorem dL_isBest_196 : decode cL_isBest 196 = .ok (.ifCond .ne 7, 3) := by decide +kernel
theorem dL_isBest_199 : decode cL_isBest 199 = .ok (.iconst 1, 1) := by decide +kernel
theorem dL_isBest_200 : decode cL_isBest 200 = .ok (.goto 4, 3) := by decide +kernel
theorem dL_isBest_203 : decode cL_isBest 203 = .ok (.iconst 0, 1) := by decide +kernel
theorem dL_isBest_204 : decode cL_isBest 204 = .ok (.ireturn, 1) := by decide +kernel
theorem dL_common_0 : decode cL_common 0 = .ok (.iload_n 0, 1) := by decide +kernel
theorem dL_common_1 : decode cL_common 1 = .ok (.ifCond .ge 8, 3) := by decide +kernel
theorem dL_common_4 : decode cL_common 4 = .ok (.iload_n 0, 1) := by decide +kernel
theorem dL_common_5 : decode cL_common 5 = .ok (.ineg, 1) := by decide +kernel
theorem dL_common_6 : decode cL_common 6 = .ok (.goto 4, 3) := by decide +kernel
theorem dL_common_9 : decode cL_common 9 = .ok (.iload_n 0, 1) := by decide +kernel
theorem dL_common_10 : decode cL_common 10 = .ok (.istore_n 2, 1) := by decide +kernel
theorem dL_common_11 : decode cL_common 11 = .ok (.iload_n 1, 1) := by decide +kernel
theorem dL_common_12 : decode cL_common 12 = .ok (.ifCond .ge 8, 3) := by decide +kernel
theorem dL_common_15 : decode cL_common 15 = .ok (.iload_n 1, 1) := by decide +kernel
theorem dL_common_16 : decode cL_common 16 = .ok (.ineg, 1) := by decide +kernel
theorem dL_common_17 : decode cL_common 17 = .ok (.goto 4, 3) := by decide +kernel
theorem dL_common_20 : decode cL_common 20 = .ok (.iload_n 1, 1) := by decide +kernel
theorem dL_common_21 : decode cL_common 21 = .ok (.istore_n 3, 1) := by decide +kernel
theorem dL_common_22 : decode cL_common 22 = .ok (.iload_n 3, 1) := by decide +kernel
theorem dL_common_23 : decode cL_common 23 = .ok (.ifCond .eq 16, 3) := by decide +kernel
theorem dL_common_26 : decode cL_common 26 = .ok (.iload_n 2, 1) := by decide +kernel
theorem dL_common_27 : decode cL_common 27 = .ok (.iload_n 3, 1) := by decide +kernel
theorem dL_common_28 : decode cL_common 28 = .ok (.irem, 1) := by decide +kernel
theorem dL_common_29 : decode cL_common 29 = .ok (.istore 4, 2) := by decide +kernel
theorem dL_common_31 : decode cL_common 31 = .ok (.iload_n 3, 1) := by decide +kernel
theorem dL_common_32 : decode cL_common 32 = .ok (.istore_n 2, 1) := by decide +kernel
theorem dL_common_33 : decode cL_common 33 = .ok (.iload 4, 2) := by decide +kernel
theorem dL_common_35 : decode cL_common 35 = .ok (.istore_n 3, 1) := by decide +kernel
theorem dL_common_36 : decode cL_common 36 = .ok (.goto (-14), 3) := by decide +kernel
theorem dL_common_39 : decode cL_common 39 = .ok (.iload_n 2, 1) := by decide +kernel
theorem dL_common_40 : decode cL_common 40 = .ok (.ireturn, 1) := by decide +kernel
theorem dL_isCone_0 : decode cL_isCone 0 = .ok (.iload_n 1, 1) := by decide +kernel
theorem dL_isCone_1 : decode cL_isCone 1 = .ok (.iload 4, 2) := by decide +kernel
theorem dL_isCone_3 : decode cL_isCone 3 = .ok (.imul, 1) := by decide +kernel
theorem dL_isCone_4 : decode cL_isCone 4 = .ok (.iload_n 2, 1) := by decide +kernel
theorem dL_isCone_5 : decode cL_isCone 5 = .ok (.iload_n 3, 1) := by decide +kernel
theorem dL_isCone_6 : decode cL_isCone 6 = .ok (.imul, 1) := by decide +kernel
theorem dL_isCone_7 : decode cL_isCone 7 = .ok (.if_icmp .ne 5, 3) := by decide +kernel
theorem dL_isCone_10 : decode cL_isCone 10 = .ok (.iconst 1, 1) := by decide +kernel
theorem dL_isCone_11 : decode cL_isCone 11 = .ok (.ireturn, 1) := by decide +kernel
theorem dL_isCone_12 : decode cL_isCone 12 = .ok (.aload_n 0, 1) := by decide +kernel
theorem dL_isCone_13 : decode cL_isCone 13 = .ok (.iload_n 1, 1) := by decide +kernel
theorem dL_isCone_14 : decode cL_isCone 14 = .ok (.iload_n 2, 1) := by decide +kernel
theorem dL_isCone_15 : decode cL_isCone 15 = .ok (.iload_n 3, 1) := by decide +kernel
theorem dL_isCone_16 : decode cL_isCone 16 = .ok (.iload 4, 2) := by decide +kernel
theorem dL_isCone_18 : decode cL_isCone 18 = .ok (.iconst (-1), 1) := by decide +kernel
theorem dL_isCone_19 : decode cL_isCone 19 = .ok (.iconst 1, 1) := by decide +kernel
theorem dL_isCone_20 : decode cL_isCone 20 = .ok (.invokevirtual 78, 3) := by decide +kernel
theorem dL_isCone_23 : decode cL_isCone 23 = .ok (.istore 5, 2) := by decide +kernel
theorem dL_isCone_25 : decode cL_isCone 25 = .ok (.iload_n 1, 1) := by decide +kernel
