/-! The code of the law, instruction by instruction -/
theorem d_LW_law_478 : decode code 478 = .ok (.aload_n 0, 1) := by decide +kernel
theorem d_LW_law_479 : decode code 479 = .ok (.iload_n 3, 1) := by decide +kernel
theorem d_LW_law_480 : decode code 480 = .ok (.iconst 2, 1) := by decide +kernel
theorem d_LW_law_481 : decode code 481 = .ok (.iadd, 1) := by decide +kernel
theorem d_LW_law_482 : decode code 482 = .ok (.iaload, 1) := by decide +kernel
theorem d_LW_law_483 : decode code 483 = .ok (.invokevirtual 76, 3) := by decide +kernel
theorem d_LW_law_486 : decode code 486 = .ok (.if_icmp .eq 163, 3) := by decide +kernel
theorem d_LW_law_489 : decode code 489 = .ok (.iconst 0, 1) := by decide +kernel
theorem d_LW_law_490 : decode code 490 = .ok (.ireturn, 1) := by decide +kernel
theorem d_LW_law_491 : decode code 491 = .ok (.aload_n 1, 1) := by decide +kernel
theorem d_LW_law_492 : decode code 492 = .ok (.aload_n 0, 1) := by decide +kernel
theorem d_LW_law_493 : decode code 493 = .ok (.iload_n 3, 1) := by decide +kernel
theorem d_LW_law_494 : decode code 494 = .ok (.iconst 1, 1) := by decide +kernel
theorem d_LW_law_495 : decode code 495 = .ok (.iadd, 1) := by decide +kernel
theorem d_LW_law_496 : decode code 496 = .ok (.iaload, 1) := by decide +kernel
theorem d_LW_law_497 : decode code 497 = .ok (.aload_n 0, 1) := by decide +kernel
theorem d_LW_law_498 : decode code 498 = .ok (.iload_n 3, 1) := by decide +kernel
theorem d_LW_law_499 : decode code 499 = .ok (.iconst 2, 1) := by decide +kernel
theorem d_LW_law_500 : decode code 500 = .ok (.iadd, 1) := by decide +kernel
theorem d_LW_law_501 : decode code 501 = .ok (.iaload, 1) := by decide +kernel
theorem d_LW_law_502 : decode code 502 = .ok (.invokevirtual 77, 3) := by decide +kernel
theorem d_LW_law_505 : decode code 505 = .ok (.aload_n 2, 1) := by decide +kernel
theorem d_LW_law_506 : decode code 506 = .ok (.aload_n 0, 1) := by decide +kernel
theorem d_LW_law_507 : decode code 507 = .ok (.iload_n 3, 1) := by decide +kernel
theorem d_LW_law_508 : decode code 508 = .ok (.iconst 1, 1) := by decide +kernel
theorem d_LW_law_509 : decode code 509 = .ok (.iadd, 1) := by decide +kernel
theorem d_LW_law_510 : decode code 510 = .ok (.iaload, 1) := by decide +kernel
theorem d_LW_law_511 : decode code 511 = .ok (.aload_n 0, 1) := by decide +kernel
theorem d_LW_law_512 : decode code 512 = .ok (.iload_n 3, 1) := by decide +kernel
theorem d_LW_law_513 : decode code 513 = .ok (.iconst 2, 1) := by decide +kernel
theorem d_LW_law_514 : decode code 514 = .ok (.iadd, 1) := by decide +kernel
theorem d_LW_law_515 : decode code 515 = .ok (.iaload, 1) := by decide +kernel
theorem d_LW_law_516 : decode code 516 = .ok (.invokevirtual 80, 3) := by decide +kernel
theorem d_LW_law_519 : decode code 519 = .ok (.if_icmp .eq 130, 3) := by decide +kernel
theorem d_LW_law_522 : decode code 522 = .ok (.iconst 0, 1) := by decide +kernel
theorem d_LW_law_523 : decode code 523 = .ok (.ireturn, 1) := by decide +kernel
theorem d_LW_law_524 : decode code 524 = .ok (.aload_n 1, 1) := by decide +kernel
theorem d_LW_law_525 : decode code 525 = .ok (.aload_n 0, 1) := by decide +kernel
theorem d_LW_law_526 : decode code 526 = .ok (.iload_n 3, 1) := by decide +kernel
theorem d_LW_law_527 : decode code 527 = .ok (.iconst 1, 1) := by decide +kernel
theorem d_LW_law_528 : decode code 528 = .ok (.iadd, 1) := by decide +kernel
theorem d_LW_law_529 : decode code 529 = .ok (.iaload, 1) := by decide +kernel
theorem d_LW_law_530 : decode code 530 = .ok (.aload_n 0, 1) := by decide +kernel
theorem d_LW_law_531 : decode code 531 = .ok (.iload_n 3, 1) := by decide +kernel
theorem d_LW_law_532 : decode code 532 = .ok (.iconst 2, 1) := by decide +kernel
theorem d_LW_law_533 : decode code 533 = .ok (.iadd, 1) := by decide +kernel
theorem d_LW_law_534 : decode code 534 = .ok (.iaload, 1) := by decide +kernel
theorem d_LW_law_535 : decode code 535 = .ok (.invokevirtual 81, 3) := by decide +kernel
theorem d_LW_law_538 : decode code 538 = .ok (.aload_n 2, 1) := by decide +kernel
theorem d_LW_law_539 : decode code 539 = .ok (.aload_n 0, 1) := by decide +kernel
