theorem d_Md_rearrange_382 : decode b_Md_rearrange 382 = .ok (.getfield 164, 3) := by decide +kernel
theorem d_Md_rearrange_385 : decode b_Md_rearrange 385 = .ok (.iconst 1, 1) := by decide +kernel
theorem d_Md_rearrange_386 : decode b_Md_rearrange 386 = .ok (.isub, 1) := by decide +kernel
theorem d_Md_rearrange_387 : decode b_Md_rearrange 387 = .ok (.aload_n 0, 1) := by decide +kernel
theorem d_Md_rearrange_388 : decode b_Md_rearrange 388 = .ok (.getfield 53, 3) := by decide +kernel
theorem d_Md_rearrange_391 : decode b_Md_rearrange 391 = .ok (.aload_n 0, 1) := by decide +kernel
theorem d_Md_rearrange_392 : decode b_Md_rearrange 392 = .ok (.getfield 164, 3) := by decide +kernel
theorem d_Md_rearrange_395 : decode b_Md_rearrange 395 = .ok (.iconst 2, 1) := by decide +kernel
theorem d_Md_rearrange_396 : decode b_Md_rearrange 396 = .ok (.isub, 1) := by decide +kernel
theorem d_Md_rearrange_397 : decode b_Md_rearrange 397 = .ok (.iaload, 1) := by decide +kernel
theorem d_Md_rearrange_398 : decode b_Md_rearrange 398 = .ok (.iastore, 1) := by decide +kernel
theorem d_Md_rearrange_399 : decode b_Md_rearrange 399 = .ok (.aload_n 0, 1) := by decide +kernel
theorem d_Md_rearrange_400 : decode b_Md_rearrange 400 = .ok (.getfield 53, 3) := by decide +kernel
theorem d_Md_rearrange_403 : decode b_Md_rearrange 403 = .ok (.aload_n 0, 1) := by decide +kernel
theorem d_Md_rearrange_404 : decode b_Md_rearrange 404 = .ok (.getfield 164, 3) := by decide +kernel
theorem d_Md_rearrange_407 : decode b_Md_rearrange 407 = .ok (.iconst 2, 1) := by decide +kernel
theorem d_Md_rearrange_408 : decode b_Md_rearrange 408 = .ok (.isub, 1) := by decide +kernel
theorem d_Md_rearrange_409 : decode b_Md_rearrange 409 = .ok (.iload 4, 2) := by decide +kernel
theorem d_Md_rearrange_411 : decode b_Md_rearrange 411 = .ok (.iastore, 1) := by decide +kernel
theorem d_Md_rearrange_412 : decode b_Md_rearrange 412 = .ok (.iconst 0, 1) := by decide +kernel
theorem d_Md_rearrange_413 : decode b_Md_rearrange 413 = .ok (.ireturn, 1) := by decide +kernel
theorem d_Md_rearrange_414 : decode b_Md_rearrange 414 = .ok (.aload_n 0, 1) := by decide +kernel
theorem d_Md_rearrange_415 : decode b_Md_rearrange 415 = .ok (.getfield 53, 3) := by decide +kernel
theorem d_Md_rearrange_418 : decode b_Md_rearrange 418 = .ok (.aload_n 0, 1) := by decide +kernel
theorem d_Md_rearrange_419 : decode b_Md_rearrange 419 = .ok (.getfield 164, 3) := by decide +kernel
theorem d_Md_rearrange_422 : decode b_Md_rearrange 422 = .ok (.iconst 1, 1) := by decide +kernel
theorem d_Md_rearrange_423 : decode b_Md_rearrange 423 = .ok (.isub, 1) := by decide +kernel
theorem d_Md_rearrange_424 : decode b_Md_rearrange 424 = .ok (.aload_n 0, 1) := by decide +kernel
theorem d_Md_rearrange_425 : decode b_Md_rearrange 425 = .ok (.getfield 53, 3) := by decide +kernel
theorem d_Md_rearrange_428 : decode b_Md_rearrange 428 = .ok (.aload_n 0, 1) := by decide +kernel
theorem d_Md_rearrange_429 : decode b_Md_rearrange 429 = .ok (.getfield 164, 3) := by decide +kernel
theorem d_Md_rearrange_432 : decode b_Md_rearrange 432 = .ok (.iconst 2, 1) := by decide +kernel
theorem d_Md_rearrange_433 : decode b_Md_rearrange 433 = .ok (.isub, 1) := by decide +kernel
theorem d_Md_rearrange_434 : decode b_Md_rearrange 434 = .ok (.iaload, 1) := by decide +kernel
theorem d_Md_rearrange_435 : decode b_Md_rearrange 435 = .ok (.iastore, 1) := by decide +kernel
theorem d_Md_rearrange_436 : decode b_Md_rearrange 436 = .ok (.aload_n 0, 1) := by decide +kernel
theorem d_Md_rearrange_437 : decode b_Md_rearrange 437 = .ok (.getfield 53, 3) := by decide +kernel
theorem d_Md_rearrange_440 : decode b_Md_rearrange 440 = .ok (.aload_n 0, 1) := by decide +kernel
theorem d_Md_rearrange_441 : decode b_Md_rearrange 441 = .ok (.getfield 164, 3) := by decide +kernel
theorem d_Md_rearrange_444 : decode b_Md_rearrange 444 = .ok (.iconst 2, 1) := by decide +kernel
theorem d_Md_rearrange_445 : decode b_Md_rearrange 445 = .ok (.isub, 1) := by decide +kernel
theorem d_Md_rearrange_446 : decode b_Md_rearrange 446 = .ok (.aload_n 0, 1) := by decide +kernel
theorem d_Md_rearrange_447 : decode b_Md_rearrange 447 = .ok (.getfield 53, 3) := by decide +kernel
theorem d_Md_rearrange_450 : decode b_Md_rearrange 450 = .ok (.aload_n 0, 1) := by decide +kernel
theorem d_Md_rearrange_451 : decode b_Md_rearrange 451 = .ok (.getfield 164, 3) := by decide +kernel
theorem d_Md_rearrange_454 : decode b_Md_rearrange 454 = .ok (.iconst 3, 1) := by decide +kernel
theorem d_Md_rearrange_455 : decode b_Md_rearrange 455 = .ok (.isub, 1) := by decide +kernel
theorem d_Md_rearrange_456 : decode b_Md_rearrange 456 = .ok (.iaload, 1) := by decide +kernel
theorem d_Md_rearrange_457 : decode b_Md_rearrange 457 = .ok (.iastore, 1) := by decide +kernel
theorem d_Md_rearrange_458 : decode b_Md_rearrange 458 = .ok (.aload_n 0, 1) := by decide +kernel
theorem d_Md_rearrange_459 : decode b_Md_rearrange 459 = .ok (.getfield 53, 3) := by decide +kernel
theorem d_Md_rearrange_462 : decode b_Md_rearrange 462 = .ok (.aload_n 0, 1) := by decide +kernel
theorem d_Md_rearrange_463 : decode b_Md_rearrange 463 = .ok (.getfield 164, 3) := by decide +kernel
theorem d_Md_rearrange_466 : decode b_Md_rearrange 466 = .ok (.iconst 3, 1) := by decide +kernel
theorem d_Md_rearrange_467 : decode b_Md_rearrange 467 = .ok (.isub, 1) := by decide +kernel
theorem d_Md_rearrange_468 : decode b_Md_rearrange 468 = .ok (.iload 4, 2) := by decide +kernel
theorem d_Md_rearrange_470 : decode b_Md_rearrange 470 = .ok (.iastore, 1) := by decide +kernel
theorem d_Md_rearrange_471 : decode b_Md_rearrange 471 = .ok (.iconst 0, 1) := by decide +kernel
theorem d_Md_rearrange_472 : decode b_Md_rearrange 472 = .ok (.ireturn, 1) := by decide +kernel
theorem d_Md_rearrange_473 : decode b_Md_rearrange 473 = .ok (.aload_n 0, 1) := by decide +kernel
theorem d_Md_rearrange_474 : decode b_Md_rearrange 474 = .ok (.getfield 53, 3) := by decide +kernel
theorem d_Md_rearrange_477 : decode b_Md_rearrange 477 = .ok (.aload_n 0, 1) := by decide +kernel
theorem d_Md_rearrange_478 : decode b_Md_rearrange 478 = .ok (.getfield 164, 3) := by decide +kernel
theorem d_Md_rearrange_481 : decode b_Md_rearrange 481 = .ok (.iconst 1, 1) := by decide +kernel
theorem d_Md_rearrange_482 : decode b_Md_rearrange 482 = .ok (.isub, 1) := by decide +kernel
theorem d_Md_rearrange_483 : decode b_Md_rearrange 483 = .ok (.iload 4, 2) := by decide +kernel
theorem d_Md_rearrange_485 : decode b_Md_rearrange 485 = .ok (.ifCond .ge 10, 3) := by decide +kernel
theorem d_Md_rearrange_488 : decode b_Md_rearrange 488 = .ok (.iconst 0, 1) := by decide +kernel
theorem d_Md_rearrange_489 : decode b_Md_rearrange 489 = .ok (.iload 4, 2) := by decide +kernel
theorem d_Md_rearrange_491 : decode b_Md_rearrange 491 = .ok (.isub, 1) := by decide +kernel
theorem d_Md_rearrange_492 : decode b_Md_rearrange 492 = .ok (.goto 5, 3) := by decide +kernel
theorem d_Md_rearrange_495 : decode b_Md_rearrange 495 = .ok (.iload 4, 2) := by decide +kernel
theorem d_Md_rearrange_497 : decode b_Md_rearrange 497 = .ok (.iastore, 1) := by decide +kernel
theorem d_Md_rearrange_498 : decode b_Md_rearrange 498 = .ok (.iconst 0, 1) := by decide +kernel
theorem d_Md_rearrange_499 : decode b_Md_rearrange 499 = .ok (.ireturn, 1) := by decide +kernel
theorem d_Md_rearrange_500 : decode b_Md_rearrange 500 = .ok (.aload_n 0, 1) := by decide +kernel
theorem d_Md_rearrange_501 : decode b_Md_rearrange 501 = .ok (.getfield 53, 3) := by decide +kernel
theorem d_Md_rearrange_504 : decode b_Md_rearrange 504 = .ok (.aload_n 0, 1) := by decide +kernel
theorem d_Md_rearrange_505 : decode b_Md_rearrange 505 = .ok (.getfield 164, 3) := by decide +kernel
theorem d_Md_rearrange_508 : decode b_Md_rearrange 508 = .ok (.iconst 1, 1) := by decide +kernel
theorem d_Md_rearrange_509 : decode b_Md_rearrange 509 = .ok (.isub, 1) := by decide +kernel
theorem d_Md_rearrange_510 : decode b_Md_rearrange 510 = .ok (.iconst 0, 1) := by decide +kernel
theorem d_Md_rearrange_511 : decode b_Md_rearrange 511 = .ok (.iload 4, 2) := by decide +kernel
theorem d_Md_rearrange_513 : decode b_Md_rearrange 513 = .ok (.isub, 1) := by decide +kernel
theorem d_Md_rearrange_514 : decode b_Md_rearrange 514 = .ok (.iastore, 1) := by decide +kernel
theorem d_Md_rearrange_515 : decode b_Md_rearrange 515 = .ok (.iconst 0, 1) := by decide +kernel
theorem d_Md_rearrange_516 : decode b_Md_rearrange 516 = .ok (.ireturn, 1) := by decide +kernel
theorem d_Md_rearrange_517 : decode b_Md_rearrange 517 = .ok (.aload_n 0, 1) := by decide +kernel
theorem d_Md_rearrange_518 : decode b_Md_rearrange 518 = .ok (.getfield 53, 3) := by decide +kernel
theorem d_Md_rearrange_521 : decode b_Md_rearrange 521 = .ok (.aload_n 0, 1) := by decide +kernel
theorem d_Md_rearrange_522 : decode b_Md_rearrange 522 = .ok (.getfield 164, 3) := by decide +kernel
theorem d_Md_rearrange_525 : decode b_Md_rearrange 525 = .ok (.iconst 1, 1) := by decide +kernel
theorem d_Md_rearrange_526 : decode b_Md_rearrange 526 = .ok (.isub, 1) := by decide +kernel
theorem d_Md_rearrange_527 : decode b_Md_rearrange 527 = .ok (.iload 4, 2) := by decide +kernel
theorem d_Md_rearrange_529 : decode b_Md_rearrange 529 = .ok (.iconst (-1), 1) := by decide +kernel
theorem d_Md_rearrange_530 : decode b_Md_rearrange 530 = .ok (.ixor, 1) := by decide +kernel
theorem d_Md_rearrange_531 : decode b_Md_rearrange 531 = .ok (.iastore, 1) := by decide +kernel
theorem d_Md_rearrange_532 : decode b_Md_rearrange 532 = .ok (.iconst 0, 1) := by decide +kernel
theorem d_Md_rearrange_533 : decode b_Md_rearrange 533 = .ok (.ireturn, 1) := by decide +kernel
theorem d_Md_rearrange_534 : decode b_Md_rearrange 534 = .ok (.aload_n 0, 1) := by decide +kernel
theorem d_Md_rearrange_535 : decode b_Md_rearrange 535 = .ok (.getfield 53, 3) := by decide +kernel
theorem d_Md_rearrange_538 : decode b_Md_rearrange 538 = .ok (.aload_n 0, 1) := by decide +kernel
theorem d_Md_rearrange_539 : decode b_Md_rearrange 539 = .ok (.getfield 164, 3) := by decide +kernel
theorem d_Md_rearrange_542 : decode b_Md_rearrange 542 = .ok (.iconst 1, 1) := by decide +kernel
theorem d_Md_rearrange_543 : decode b_Md_rearrange 543 = .ok (.isub, 1) := by decide +kernel
theorem d_Md_rearrange_544 : decode b_Md_rearrange 544 = .ok (.iload 4, 2) := by decide +kernel
theorem d_Md_rearrange_546 : decode b_Md_rearrange 546 = .ok (.iload_n 2, 1) := by decide +kernel
theorem d_Md_rearrange_547 : decode b_Md_rearrange 547 = .ok (.iadd, 1) := by decide +kernel
theorem d_Md_rearrange_548 : decode b_Md_rearrange 548 = .ok (.iastore, 1) := by decide +kernel
theorem d_Md_rearrange_549 : decode b_Md_rearrange 549 = .ok (.iconst 0, 1) := by decide +kernel
theorem d_Md_rearrange_550 : decode b_Md_rearrange 550 = .ok (.ireturn, 1) := by decide +kernel
