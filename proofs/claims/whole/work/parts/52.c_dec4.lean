theorem d_Lw_law_370 : decode b_Lw_law 370 = .ok (.invokestatic 87, 3) := by decide +kernel
theorem d_Lw_law_373 : decode b_Lw_law 373 = .ok (.istore 5, 2) := by decide +kernel
theorem d_Lw_law_375 : decode b_Lw_law 375 = .ok (.aload_n 2, 1) := by decide +kernel
theorem d_Lw_law_376 : decode b_Lw_law 376 = .ok (.aload_n 0, 1) := by decide +kernel
theorem d_Lw_law_377 : decode b_Lw_law 377 = .ok (.iload 4, 2) := by decide +kernel
theorem d_Lw_law_379 : decode b_Lw_law 379 = .ok (.iconst 1, 1) := by decide +kernel
theorem d_Lw_law_380 : decode b_Lw_law 380 = .ok (.iadd, 1) := by decide +kernel
theorem d_Lw_law_381 : decode b_Lw_law 381 = .ok (.iaload, 1) := by decide +kernel
theorem d_Lw_law_382 : decode b_Lw_law 382 = .ok (.aload_n 0, 1) := by decide +kernel
theorem d_Lw_law_383 : decode b_Lw_law 383 = .ok (.iload 4, 2) := by decide +kernel
theorem d_Lw_law_385 : decode b_Lw_law 385 = .ok (.iconst 2, 1) := by decide +kernel
theorem d_Lw_law_386 : decode b_Lw_law 386 = .ok (.iadd, 1) := by decide +kernel
theorem d_Lw_law_387 : decode b_Lw_law 387 = .ok (.iaload, 1) := by decide +kernel
theorem d_Lw_law_388 : decode b_Lw_law 388 = .ok (.aload_n 0, 1) := by decide +kernel
theorem d_Lw_law_389 : decode b_Lw_law 389 = .ok (.iload 4, 2) := by decide +kernel
theorem d_Lw_law_391 : decode b_Lw_law 391 = .ok (.iconst 3, 1) := by decide +kernel
theorem d_Lw_law_392 : decode b_Lw_law 392 = .ok (.iadd, 1) := by decide +kernel
theorem d_Lw_law_393 : decode b_Lw_law 393 = .ok (.iaload, 1) := by decide +kernel
theorem d_Lw_law_394 : decode b_Lw_law 394 = .ok (.invokevirtual 90, 3) := by decide +kernel
theorem d_Lw_law_397 : decode b_Lw_law 397 = .ok (.istore 6, 2) := by decide +kernel
theorem d_Lw_law_399 : decode b_Lw_law 399 = .ok (.aload_n 2, 1) := by decide +kernel
theorem d_Lw_law_400 : decode b_Lw_law 400 = .ok (.invokevirtual 64, 3) := by decide +kernel
theorem d_Lw_law_403 : decode b_Lw_law 403 = .ok (.iload 5, 2) := by decide +kernel
theorem d_Lw_law_405 : decode b_Lw_law 405 = .ok (.if_icmp .eq 5, 3) := by decide +kernel
theorem d_Lw_law_408 : decode b_Lw_law 408 = .ok (.iconst 0, 1) := by decide +kernel
theorem d_Lw_law_409 : decode b_Lw_law 409 = .ok (.ireturn, 1) := by decide +kernel
theorem d_Lw_law_410 : decode b_Lw_law 410 = .ok (.iload 5, 2) := by decide +kernel
theorem d_Lw_law_412 : decode b_Lw_law 412 = .ok (.ifCond .ne 15, 3) := by decide +kernel
theorem d_Lw_law_415 : decode b_Lw_law 415 = .ok (.aload_n 3, 1) := by decide +kernel
theorem d_Lw_law_416 : decode b_Lw_law 416 = .ok (.iconst 0, 1) := by decide +kernel
theorem d_Lw_law_417 : decode b_Lw_law 417 = .ok (.laload, 1) := by decide +kernel
theorem d_Lw_law_418 : decode b_Lw_law 418 = .ok (.iload 6, 2) := by decide +kernel
theorem d_Lw_law_420 : decode b_Lw_law 420 = .ok (.i2l, 1) := by decide +kernel
theorem d_Lw_law_421 : decode b_Lw_law 421 = .ok (.lcmp, 1) := by decide +kernel
theorem d_Lw_law_422 : decode b_Lw_law 422 = .ok (.ifCond .eq 5, 3) := by decide +kernel
theorem d_Lw_law_425 : decode b_Lw_law 425 = .ok (.iconst 0, 1) := by decide +kernel
theorem d_Lw_law_426 : decode b_Lw_law 426 = .ok (.ireturn, 1) := by decide +kernel
theorem d_Lw_law_427 : decode b_Lw_law 427 = .ok (.goto 327, 3) := by decide +kernel
theorem d_Lw_law_430 : decode b_Lw_law 430 = .ok (.aload_n 1, 1) := by decide +kernel
theorem d_Lw_law_431 : decode b_Lw_law 431 = .ok (.aload_n 0, 1) := by decide +kernel
theorem d_Lw_law_432 : decode b_Lw_law 432 = .ok (.iload 4, 2) := by decide +kernel
theorem d_Lw_law_434 : decode b_Lw_law 434 = .ok (.iconst 1, 1) := by decide +kernel
theorem d_Lw_law_435 : decode b_Lw_law 435 = .ok (.iadd, 1) := by decide +kernel
theorem d_Lw_law_436 : decode b_Lw_law 436 = .ok (.iaload, 1) := by decide +kernel
theorem d_Lw_law_437 : decode b_Lw_law 437 = .ok (.aload_n 0, 1) := by decide +kernel
theorem d_Lw_law_438 : decode b_Lw_law 438 = .ok (.iload 4, 2) := by decide +kernel
theorem d_Lw_law_440 : decode b_Lw_law 440 = .ok (.iconst 2, 1) := by decide +kernel
theorem d_Lw_law_441 : decode b_Lw_law 441 = .ok (.iadd, 1) := by decide +kernel
theorem d_Lw_law_442 : decode b_Lw_law 442 = .ok (.iaload, 1) := by decide +kernel
theorem d_Lw_law_443 : decode b_Lw_law 443 = .ok (.invokestatic 91, 3) := by decide +kernel
theorem d_Lw_law_446 : decode b_Lw_law 446 = .ok (.istore 5, 2) := by decide +kernel
theorem d_Lw_law_448 : decode b_Lw_law 448 = .ok (.aload_n 2, 1) := by decide +kernel
theorem d_Lw_law_449 : decode b_Lw_law 449 = .ok (.aload_n 0, 1) := by decide +kernel
theorem d_Lw_law_450 : decode b_Lw_law 450 = .ok (.iload 4, 2) := by decide +kernel
theorem d_Lw_law_452 : decode b_Lw_law 452 = .ok (.iconst 1, 1) := by decide +kernel
theorem d_Lw_law_453 : decode b_Lw_law 453 = .ok (.iadd, 1) := by decide +kernel
theorem d_Lw_law_454 : decode b_Lw_law 454 = .ok (.iaload, 1) := by decide +kernel
theorem d_Lw_law_455 : decode b_Lw_law 455 = .ok (.aload_n 0, 1) := by decide +kernel
theorem d_Lw_law_456 : decode b_Lw_law 456 = .ok (.iload 4, 2) := by decide +kernel
theorem d_Lw_law_458 : decode b_Lw_law 458 = .ok (.iconst 2, 1) := by decide +kernel
