theorem d_Lw_law_459 : decode b_Lw_law 459 = .ok (.iadd, 1) := by decide +kernel
theorem d_Lw_law_460 : decode b_Lw_law 460 = .ok (.iaload, 1) := by decide +kernel
theorem d_Lw_law_461 : decode b_Lw_law 461 = .ok (.invokevirtual 94, 3) := by decide +kernel
theorem d_Lw_law_464 : decode b_Lw_law 464 = .ok (.aload_n 2, 1) := by decide +kernel
theorem d_Lw_law_465 : decode b_Lw_law 465 = .ok (.invokevirtual 64, 3) := by decide +kernel
theorem d_Lw_law_468 : decode b_Lw_law 468 = .ok (.iload 5, 2) := by decide +kernel
theorem d_Lw_law_470 : decode b_Lw_law 470 = .ok (.if_icmp .eq 5, 3) := by decide +kernel
theorem d_Lw_law_473 : decode b_Lw_law 473 = .ok (.iconst 0, 1) := by decide +kernel
theorem d_Lw_law_474 : decode b_Lw_law 474 = .ok (.ireturn, 1) := by decide +kernel
theorem d_Lw_law_475 : decode b_Lw_law 475 = .ok (.goto 279, 3) := by decide +kernel
theorem d_Lw_law_478 : decode b_Lw_law 478 = .ok (.aload_n 1, 1) := by decide +kernel
theorem d_Lw_law_479 : decode b_Lw_law 479 = .ok (.aload_n 0, 1) := by decide +kernel
theorem d_Lw_law_480 : decode b_Lw_law 480 = .ok (.iload 4, 2) := by decide +kernel
theorem d_Lw_law_482 : decode b_Lw_law 482 = .ok (.iconst 1, 1) := by decide +kernel
theorem d_Lw_law_483 : decode b_Lw_law 483 = .ok (.iadd, 1) := by decide +kernel
theorem d_Lw_law_484 : decode b_Lw_law 484 = .ok (.iaload, 1) := by decide +kernel
theorem d_Lw_law_485 : decode b_Lw_law 485 = .ok (.aload_n 0, 1) := by decide +kernel
theorem d_Lw_law_486 : decode b_Lw_law 486 = .ok (.iload 4, 2) := by decide +kernel
theorem d_Lw_law_488 : decode b_Lw_law 488 = .ok (.iconst 2, 1) := by decide +kernel
theorem d_Lw_law_489 : decode b_Lw_law 489 = .ok (.iadd, 1) := by decide +kernel
theorem d_Lw_law_490 : decode b_Lw_law 490 = .ok (.iaload, 1) := by decide +kernel
theorem d_Lw_law_491 : decode b_Lw_law 491 = .ok (.invokestatic 95, 3) := by decide +kernel
theorem d_Lw_law_494 : decode b_Lw_law 494 = .ok (.istore 5, 2) := by decide +kernel
theorem d_Lw_law_496 : decode b_Lw_law 496 = .ok (.aload_n 2, 1) := by decide +kernel
theorem d_Lw_law_497 : decode b_Lw_law 497 = .ok (.aload_n 0, 1) := by decide +kernel
theorem d_Lw_law_498 : decode b_Lw_law 498 = .ok (.iload 4, 2) := by decide +kernel
theorem d_Lw_law_500 : decode b_Lw_law 500 = .ok (.iconst 1, 1) := by decide +kernel
theorem d_Lw_law_501 : decode b_Lw_law 501 = .ok (.iadd, 1) := by decide +kernel
theorem d_Lw_law_502 : decode b_Lw_law 502 = .ok (.iaload, 1) := by decide +kernel
theorem d_Lw_law_503 : decode b_Lw_law 503 = .ok (.aload_n 0, 1) := by decide +kernel
theorem d_Lw_law_504 : decode b_Lw_law 504 = .ok (.iload 4, 2) := by decide +kernel
theorem d_Lw_law_506 : decode b_Lw_law 506 = .ok (.iconst 2, 1) := by decide +kernel
theorem d_Lw_law_507 : decode b_Lw_law 507 = .ok (.iadd, 1) := by decide +kernel
theorem d_Lw_law_508 : decode b_Lw_law 508 = .ok (.iaload, 1) := by decide +kernel
theorem d_Lw_law_509 : decode b_Lw_law 509 = .ok (.invokevirtual 97, 3) := by decide +kernel
theorem d_Lw_law_512 : decode b_Lw_law 512 = .ok (.aload_n 2, 1) := by decide +kernel
theorem d_Lw_law_513 : decode b_Lw_law 513 = .ok (.invokevirtual 64, 3) := by decide +kernel
theorem d_Lw_law_516 : decode b_Lw_law 516 = .ok (.iload 5, 2) := by decide +kernel
theorem d_Lw_law_518 : decode b_Lw_law 518 = .ok (.if_icmp .eq 5, 3) := by decide +kernel
theorem d_Lw_law_521 : decode b_Lw_law 521 = .ok (.iconst 0, 1) := by decide +kernel
theorem d_Lw_law_522 : decode b_Lw_law 522 = .ok (.ireturn, 1) := by decide +kernel
theorem d_Lw_law_523 : decode b_Lw_law 523 = .ok (.goto 231, 3) := by decide +kernel
theorem d_Lw_law_526 : decode b_Lw_law 526 = .ok (.aload_n 1, 1) := by decide +kernel
theorem d_Lw_law_527 : decode b_Lw_law 527 = .ok (.aload_n 0, 1) := by decide +kernel
theorem d_Lw_law_528 : decode b_Lw_law 528 = .ok (.iload 4, 2) := by decide +kernel
theorem d_Lw_law_530 : decode b_Lw_law 530 = .ok (.iconst 1, 1) := by decide +kernel
theorem d_Lw_law_531 : decode b_Lw_law 531 = .ok (.iadd, 1) := by decide +kernel
theorem d_Lw_law_532 : decode b_Lw_law 532 = .ok (.iaload, 1) := by decide +kernel
theorem d_Lw_law_533 : decode b_Lw_law 533 = .ok (.invokevirtual 98, 3) := by decide +kernel
theorem d_Lw_law_536 : decode b_Lw_law 536 = .ok (.aload_n 2, 1) := by decide +kernel
theorem d_Lw_law_537 : decode b_Lw_law 537 = .ok (.aload_n 0, 1) := by decide +kernel
theorem d_Lw_law_538 : decode b_Lw_law 538 = .ok (.iload 4, 2) := by decide +kernel
theorem d_Lw_law_540 : decode b_Lw_law 540 = .ok (.iconst 1, 1) := by decide +kernel
theorem d_Lw_law_541 : decode b_Lw_law 541 = .ok (.iadd, 1) := by decide +kernel
theorem d_Lw_law_542 : decode b_Lw_law 542 = .ok (.iaload, 1) := by decide +kernel
theorem d_Lw_law_543 : decode b_Lw_law 543 = .ok (.invokevirtual 101, 3) := by decide +kernel
theorem d_Lw_law_546 : decode b_Lw_law 546 = .ok (.goto 208, 3) := by decide +kernel
theorem d_Lw_law_549 : decode b_Lw_law 549 = .ok (.aload_n 1, 1) := by decide +kernel
theorem d_Lw_law_550 : decode b_Lw_law 550 = .ok (.aload_n 0, 1) := by decide +kernel
theorem d_Lw_law_551 : decode b_Lw_law 551 = .ok (.iload 4, 2) := by decide +kernel
