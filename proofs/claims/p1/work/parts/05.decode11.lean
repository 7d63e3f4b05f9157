theorem d_Law_law_418 : decode b_Law_law 418 = .ok (.if_icmp .eq 5, 3) := by decide +kernel
theorem d_Law_law_423 : decode b_Law_law 423 = .ok (.iload 5, 2) := by decide +kernel
theorem d_Law_law_425 : decode b_Law_law 425 = .ok (.ifCond .ne 15, 3) := by decide +kernel
theorem d_Law_law_440 : decode b_Law_law 440 = .ok (.goto 152, 3) := by decide +kernel
theorem d_Law_law_443 : decode b_Law_law 443 = .ok (.aload_n 1, 1) := by decide +kernel
theorem d_Law_law_444 : decode b_Law_law 444 = .ok (.aload_n 0, 1) := by decide +kernel
theorem d_Law_law_445 : decode b_Law_law 445 = .ok (.iload 4, 2) := by decide +kernel
theorem d_Law_law_447 : decode b_Law_law 447 = .ok (.iconst 1, 1) := by decide +kernel
theorem d_Law_law_448 : decode b_Law_law 448 = .ok (.iadd, 1) := by decide +kernel
theorem d_Law_law_449 : decode b_Law_law 449 = .ok (.iaload, 1) := by decide +kernel
theorem d_Law_law_450 : decode b_Law_law 450 = .ok (.aload_n 0, 1) := by decide +kernel
theorem d_Law_law_451 : decode b_Law_law 451 = .ok (.iload 4, 2) := by decide +kernel
theorem d_Law_law_453 : decode b_Law_law 453 = .ok (.iconst 2, 1) := by decide +kernel
theorem d_Law_law_454 : decode b_Law_law 454 = .ok (.iadd, 1) := by decide +kernel
theorem d_Law_law_455 : decode b_Law_law 455 = .ok (.iaload, 1) := by decide +kernel
theorem d_Law_law_456 : decode b_Law_law 456 = .ok (.aload_n 3, 1) := by decide +kernel
theorem d_Law_law_457 : decode b_Law_law 457 = .ok (.invokestatic 75, 3) := by decide +kernel
theorem d_Law_law_460 : decode b_Law_law 460 = .ok (.istore 5, 2) := by decide +kernel
theorem d_Law_law_462 : decode b_Law_law 462 = .ok (.aload_n 2, 1) := by decide +kernel
theorem d_Law_law_463 : decode b_Law_law 463 = .ok (.aload_n 0, 1) := by decide +kernel
theorem d_Law_law_464 : decode b_Law_law 464 = .ok (.iload 4, 2) := by decide +kernel
theorem d_Law_law_466 : decode b_Law_law 466 = .ok (.iconst 1, 1) := by decide +kernel
theorem d_Law_law_467 : decode b_Law_law 467 = .ok (.iadd, 1) := by decide +kernel
theorem d_Law_law_468 : decode b_Law_law 468 = .ok (.iaload, 1) := by decide +kernel
theorem d_Law_law_469 : decode b_Law_law 469 = .ok (.aload_n 0, 1) := by decide +kernel
theorem d_Law_law_470 : decode b_Law_law 470 = .ok (.iload 4, 2) := by decide +kernel
theorem d_Law_law_472 : decode b_Law_law 472 = .ok (.iconst 2, 1) := by decide +kernel
theorem d_Law_law_473 : decode b_Law_law 473 = .ok (.iadd, 1) := by decide +kernel
theorem d_Law_law_474 : decode b_Law_law 474 = .ok (.iaload, 1) := by decide +kernel
theorem d_Law_law_475 : decode b_Law_law 475 = .ok (.invokevirtual 77, 3) := by decide +kernel
theorem d_Law_law_478 : decode b_Law_law 478 = .ok (.istore 6, 2) := by decide +kernel
theorem d_Law_law_480 : decode b_Law_law 480 = .ok (.aload_n 2, 1) := by decide +kernel
theorem d_Law_law_481 : decode b_Law_law 481 = .ok (.invokevirtual 48, 3) := by decide +kernel
theorem d_Law_law_484 : decode b_Law_law 484 = .ok (.iload 5, 2) := by decide +kernel
theorem d_Law_law_486 : decode b_Law_law 486 = .ok (.if_icmp .eq 5, 3) := by decide +kernel
theorem d_Law_law_491 : decode b_Law_law 491 = .ok (.iload 5, 2) := by decide +kernel
theorem d_Law_law_493 : decode b_Law_law 493 = .ok (.ifCond .ne 15, 3) := by decide +kernel
theorem d_Law_law_508 : decode b_Law_law 508 = .ok (.goto 84, 3) := by decide +kernel
theorem d_Law_law_511 : decode b_Law_law 511 = .ok (.aload_n 1, 1) := by decide +kernel
theorem d_Law_law_512 : decode b_Law_law 512 = .ok (.aload_n 0, 1) := by decide +kernel
theorem d_Law_law_513 : decode b_Law_law 513 = .ok (.iload 4, 2) := by decide +kernel
theorem d_Law_law_515 : decode b_Law_law 515 = .ok (.iconst 1, 1) := by decide +kernel
theorem d_Law_law_516 : decode b_Law_law 516 = .ok (.iadd, 1) := by decide +kernel
theorem d_Law_law_517 : decode b_Law_law 517 = .ok (.iaload, 1) := by decide +kernel
theorem d_Law_law_518 : decode b_Law_law 518 = .ok (.aload_n 3, 1) := by decide +kernel
theorem d_Law_law_519 : decode b_Law_law 519 = .ok (.invokestatic 78, 3) := by decide +kernel
theorem d_Law_law_522 : decode b_Law_law 522 = .ok (.istore 5, 2) := by decide +kernel
theorem d_Law_law_524 : decode b_Law_law 524 = .ok (.aload_n 2, 1) := by decide +kernel
theorem d_Law_law_525 : decode b_Law_law 525 = .ok (.aload_n 0, 1) := by decide +kernel
theorem d_Law_law_526 : decode b_Law_law 526 = .ok (.iload 4, 2) := by decide +kernel
theorem d_Law_law_528 : decode b_Law_law 528 = .ok (.iconst 1, 1) := by decide +kernel
theorem d_Law_law_529 : decode b_Law_law 529 = .ok (.iadd, 1) := by decide +kernel
theorem d_Law_law_530 : decode b_Law_law 530 = .ok (.iaload, 1) := by decide +kernel
theorem d_Law_law_531 : decode b_Law_law 531 = .ok (.invokevirtual 80, 3) := by decide +kernel
theorem d_Law_law_534 : decode b_Law_law 534 = .ok (.istore 6, 2) := by decide +kernel
theorem d_Law_law_536 : decode b_Law_law 536 = .ok (.aload_n 2, 1) := by decide +kernel
theorem d_Law_law_537 : decode b_Law_law 537 = .ok (.invokevirtual 48, 3) := by decide +kernel
theorem d_Law_law_540 : decode b_Law_law 540 = .ok (.iload 5, 2) := by decide +kernel
theorem d_Law_law_542 : decode b_Law_law 542 = .ok (.if_icmp .eq 5, 3) := by decide +kernel
theorem d_Law_law_547 : decode b_Law_law 547 = .ok (.iload 5, 2) := by decide +kernel
