/-! The code of the law, instruction by instruction -/
theorem d_LW_law_602 : decode code 602 = .ok (.iconst 1, 1) := by decide +kernel
theorem d_LW_law_603 : decode code 603 = .ok (.iadd, 1) := by decide +kernel
theorem d_LW_law_604 : decode code 604 = .ok (.iaload, 1) := by decide +kernel
theorem d_LW_law_605 : decode code 605 = .ok (.invokevirtual 92, 3) := by decide +kernel
theorem d_LW_law_608 : decode code 608 = .ok (.if_icmp .eq 41, 3) := by decide +kernel
theorem d_LW_law_611 : decode code 611 = .ok (.iconst 0, 1) := by decide +kernel
theorem d_LW_law_612 : decode code 612 = .ok (.ireturn, 1) := by decide +kernel
theorem d_LW_law_613 : decode code 613 = .ok (.aload_n 1, 1) := by decide +kernel
theorem d_LW_law_614 : decode code 614 = .ok (.aload_n 0, 1) := by decide +kernel
theorem d_LW_law_615 : decode code 615 = .ok (.iload_n 3, 1) := by decide +kernel
theorem d_LW_law_616 : decode code 616 = .ok (.iconst 1, 1) := by decide +kernel
theorem d_LW_law_617 : decode code 617 = .ok (.iadd, 1) := by decide +kernel
theorem d_LW_law_618 : decode code 618 = .ok (.iaload, 1) := by decide +kernel
theorem d_LW_law_619 : decode code 619 = .ok (.invokevirtual 93, 3) := by decide +kernel
theorem d_LW_law_622 : decode code 622 = .ok (.aload_n 2, 1) := by decide +kernel
theorem d_LW_law_623 : decode code 623 = .ok (.aload_n 0, 1) := by decide +kernel
theorem d_LW_law_624 : decode code 624 = .ok (.iload_n 3, 1) := by decide +kernel
theorem d_LW_law_625 : decode code 625 = .ok (.iconst 1, 1) := by decide +kernel
theorem d_LW_law_626 : decode code 626 = .ok (.iadd, 1) := by decide +kernel
theorem d_LW_law_627 : decode code 627 = .ok (.iaload, 1) := by decide +kernel
theorem d_LW_law_628 : decode code 628 = .ok (.invokevirtual 96, 3) := by decide +kernel
theorem d_LW_law_631 : decode code 631 = .ok (.if_icmp .eq 18, 3) := by decide +kernel
theorem d_LW_law_634 : decode code 634 = .ok (.iconst 0, 1) := by decide +kernel
theorem d_LW_law_635 : decode code 635 = .ok (.ireturn, 1) := by decide +kernel
theorem d_LW_law_636 : decode code 636 = .ok (.aload_n 1, 1) := by decide +kernel
theorem d_LW_law_637 : decode code 637 = .ok (.invokevirtual 97, 3) := by decide +kernel
theorem d_LW_law_640 : decode code 640 = .ok (.aload_n 2, 1) := by decide +kernel
theorem d_LW_law_641 : decode code 641 = .ok (.invokevirtual 100, 3) := by decide +kernel
theorem d_LW_law_644 : decode code 644 = .ok (.if_icmp .eq 5, 3) := by decide +kernel
theorem d_LW_law_647 : decode code 647 = .ok (.iconst 0, 1) := by decide +kernel
theorem d_LW_law_648 : decode code 648 = .ok (.ireturn, 1) := by decide +kernel
theorem d_LW_law_649 : decode code 649 = .ok (.iinc 3 3, 3) := by decide +kernel
theorem d_LW_law_652 : decode code 652 = .ok (.goto (-624), 3) := by decide +kernel
theorem d_LW_law_655 : decode code 655 = .ok (.iconst 1, 1) := by decide +kernel
theorem d_LW_law_656 : decode code 656 = .ok (.ireturn, 1) := by decide +kernel
theorem d_LW_cell_0 : decode b_LW_cell 0 = .ok (.iload_n 1, 1) := by decide +kernel
theorem d_LW_cell_1 : decode b_LW_cell 1 = .ok (.aload_n 0, 1) := by decide +kernel
theorem d_LW_cell_2 : decode b_LW_cell 2 = .ok (.arraylength, 1) := by decide +kernel
theorem d_LW_cell_3 : decode b_LW_cell 3 = .ok (.if_icmp .ge 9, 3) := by decide +kernel
theorem d_LW_cell_6 : decode b_LW_cell 6 = .ok (.aload_n 0, 1) := by decide +kernel
theorem d_LW_cell_7 : decode b_LW_cell 7 = .ok (.iload_n 1, 1) := by decide +kernel
theorem d_LW_cell_8 : decode b_LW_cell 8 = .ok (.iaload, 1) := by decide +kernel
theorem d_LW_cell_9 : decode b_LW_cell 9 = .ok (.goto 4, 3) := by decide +kernel
theorem d_LW_cell_12 : decode b_LW_cell 12 = .ok (.iconst 0, 1) := by decide +kernel
theorem d_LW_cell_13 : decode b_LW_cell 13 = .ok (.ireturn, 1) := by decide +kernel
