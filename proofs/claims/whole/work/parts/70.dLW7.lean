/-! The code of the law, instruction by instruction -/
theorem d_LW_law_540 : decode code 540 = .ok (.iload_n 3, 1) := by decide +kernel
theorem d_LW_law_541 : decode code 541 = .ok (.iconst 1, 1) := by decide +kernel
theorem d_LW_law_542 : decode code 542 = .ok (.iadd, 1) := by decide +kernel
theorem d_LW_law_543 : decode code 543 = .ok (.iaload, 1) := by decide +kernel
theorem d_LW_law_544 : decode code 544 = .ok (.aload_n 0, 1) := by decide +kernel
theorem d_LW_law_545 : decode code 545 = .ok (.iload_n 3, 1) := by decide +kernel
theorem d_LW_law_546 : decode code 546 = .ok (.iconst 2, 1) := by decide +kernel
theorem d_LW_law_547 : decode code 547 = .ok (.iadd, 1) := by decide +kernel
theorem d_LW_law_548 : decode code 548 = .ok (.iaload, 1) := by decide +kernel
theorem d_LW_law_549 : decode code 549 = .ok (.invokevirtual 84, 3) := by decide +kernel
theorem d_LW_law_552 : decode code 552 = .ok (.if_icmp .eq 97, 3) := by decide +kernel
theorem d_LW_law_555 : decode code 555 = .ok (.iconst 0, 1) := by decide +kernel
theorem d_LW_law_556 : decode code 556 = .ok (.ireturn, 1) := by decide +kernel
theorem d_LW_law_557 : decode code 557 = .ok (.aload_n 1, 1) := by decide +kernel
theorem d_LW_law_558 : decode code 558 = .ok (.aload_n 0, 1) := by decide +kernel
theorem d_LW_law_559 : decode code 559 = .ok (.iload_n 3, 1) := by decide +kernel
theorem d_LW_law_560 : decode code 560 = .ok (.iconst 1, 1) := by decide +kernel
theorem d_LW_law_561 : decode code 561 = .ok (.iadd, 1) := by decide +kernel
theorem d_LW_law_562 : decode code 562 = .ok (.iaload, 1) := by decide +kernel
theorem d_LW_law_563 : decode code 563 = .ok (.aload_n 0, 1) := by decide +kernel
theorem d_LW_law_564 : decode code 564 = .ok (.iload_n 3, 1) := by decide +kernel
theorem d_LW_law_565 : decode code 565 = .ok (.iconst 2, 1) := by decide +kernel
theorem d_LW_law_566 : decode code 566 = .ok (.iadd, 1) := by decide +kernel
theorem d_LW_law_567 : decode code 567 = .ok (.iaload, 1) := by decide +kernel
theorem d_LW_law_568 : decode code 568 = .ok (.invokevirtual 85, 3) := by decide +kernel
theorem d_LW_law_571 : decode code 571 = .ok (.aload_n 2, 1) := by decide +kernel
theorem d_LW_law_572 : decode code 572 = .ok (.aload_n 0, 1) := by decide +kernel
theorem d_LW_law_573 : decode code 573 = .ok (.iload_n 3, 1) := by decide +kernel
theorem d_LW_law_574 : decode code 574 = .ok (.iconst 1, 1) := by decide +kernel
theorem d_LW_law_575 : decode code 575 = .ok (.iadd, 1) := by decide +kernel
theorem d_LW_law_576 : decode code 576 = .ok (.iaload, 1) := by decide +kernel
theorem d_LW_law_577 : decode code 577 = .ok (.aload_n 0, 1) := by decide +kernel
theorem d_LW_law_578 : decode code 578 = .ok (.iload_n 3, 1) := by decide +kernel
theorem d_LW_law_579 : decode code 579 = .ok (.iconst 2, 1) := by decide +kernel
theorem d_LW_law_580 : decode code 580 = .ok (.iadd, 1) := by decide +kernel
theorem d_LW_law_581 : decode code 581 = .ok (.iaload, 1) := by decide +kernel
theorem d_LW_law_582 : decode code 582 = .ok (.invokevirtual 88, 3) := by decide +kernel
theorem d_LW_law_585 : decode code 585 = .ok (.if_icmp .eq 64, 3) := by decide +kernel
theorem d_LW_law_588 : decode code 588 = .ok (.iconst 0, 1) := by decide +kernel
theorem d_LW_law_589 : decode code 589 = .ok (.ireturn, 1) := by decide +kernel
theorem d_LW_law_590 : decode code 590 = .ok (.aload_n 1, 1) := by decide +kernel
theorem d_LW_law_591 : decode code 591 = .ok (.aload_n 0, 1) := by decide +kernel
theorem d_LW_law_592 : decode code 592 = .ok (.iload_n 3, 1) := by decide +kernel
theorem d_LW_law_593 : decode code 593 = .ok (.iconst 1, 1) := by decide +kernel
theorem d_LW_law_594 : decode code 594 = .ok (.iadd, 1) := by decide +kernel
theorem d_LW_law_595 : decode code 595 = .ok (.iaload, 1) := by decide +kernel
theorem d_LW_law_596 : decode code 596 = .ok (.invokevirtual 89, 3) := by decide +kernel
theorem d_LW_law_599 : decode code 599 = .ok (.aload_n 2, 1) := by decide +kernel
theorem d_LW_law_600 : decode code 600 = .ok (.aload_n 0, 1) := by decide +kernel
theorem d_LW_law_601 : decode code 601 = .ok (.iload_n 3, 1) := by decide +kernel
