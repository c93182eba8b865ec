theorem dL_holds_601 : decode cL_holds 601 = .ok (.if_icmp .eq 19, 3) := by decide +kernel
theorem dL_holds_604 : decode cL_holds 604 = .ok (.iload 5, 2) := by decide +kernel
theorem dL_holds_606 : decode cL_holds 606 = .ok (.iload 9, 2) := by decide +kernel
theorem dL_holds_608 : decode cL_holds 608 = .ok (.iconst 1, 1) := by decide +kernel
theorem dL_holds_609 : decode cL_holds 609 = .ok (.iadd, 1) := by decide +kernel
theorem dL_holds_610 : decode cL_holds 610 = .ok (.iload 4, 2) := by decide +kernel
theorem dL_holds_612 : decode cL_holds 612 = .ok (.iadd, 1) := by decide +kernel
theorem dL_holds_613 : decode cL_holds 613 = .ok (.iload_n 2, 1) := by decide +kernel
theorem dL_holds_614 : decode cL_holds 614 = .ok (.imul, 1) := by decide +kernel
theorem dL_holds_615 : decode cL_holds 615 = .ok (.iadd, 1) := by decide +kernel
theorem dL_holds_616 : decode cL_holds 616 = .ok (.iload_n 3, 1) := by decide +kernel
theorem dL_holds_617 : decode cL_holds 617 = .ok (.if_icmp .le 50, 3) := by decide +kernel
theorem dL_holds_620 : decode cL_holds 620 = .ok (.iload 10, 2) := by decide +kernel
theorem dL_holds_622 : decode cL_holds 622 = .ok (.iconst (-1), 1) := by decide +kernel
theorem dL_holds_623 : decode cL_holds 623 = .ok (.if_icmp .ne 7, 3) := by decide +kernel
theorem dL_holds_626 : decode cL_holds 626 = .ok (.iconst 1, 1) := by decide +kernel
theorem dL_holds_627 : decode cL_holds 627 = .ok (.goto 4, 3) := by decide +kernel
theorem dL_holds_630 : decode cL_holds 630 = .ok (.iconst 0, 1) := by decide +kernel
theorem dL_holds_631 : decode cL_holds 631 = .ok (.iload 11, 2) := by decide +kernel
theorem dL_holds_633 : decode cL_holds 633 = .ok (.ifCond .ne 7, 3) := by decide +kernel
theorem dL_holds_636 : decode cL_holds 636 = .ok (.iconst 1, 1) := by decide +kernel
theorem dL_holds_637 : decode cL_holds 637 = .ok (.goto 4, 3) := by decide +kernel
theorem dL_holds_640 : decode cL_holds 640 = .ok (.iconst 0, 1) := by decide +kernel
theorem dL_holds_641 : decode cL_holds 641 = .ok (.if_icmp .ne 26, 3) := by decide +kernel
theorem dL_holds_644 : decode cL_holds 644 = .ok (.iload 10, 2) := by decide +kernel
theorem dL_holds_646 : decode cL_holds 646 = .ok (.iconst (-1), 1) := by decide +kernel
theorem dL_holds_647 : decode cL_holds 647 = .ok (.if_icmp .eq 16, 3) := by decide +kernel
theorem dL_holds_650 : decode cL_holds 650 = .ok (.aload_n 0, 1) := by decide +kernel
theorem dL_holds_651 : decode cL_holds 651 = .ok (.iconst 3, 1) := by decide +kernel
theorem dL_holds_652 : decode cL_holds 652 = .ok (.iload 10, 2) := by decide +kernel
theorem dL_holds_654 : decode cL_holds 654 = .ok (.iconst 4, 1) := by decide +kernel
theorem dL_holds_655 : decode cL_holds 655 = .ok (.iconst 0, 1) := by decide +kernel
theorem dL_holds_656 : decode cL_holds 656 = .ok (.invokestatic 138, 3) := by decide +kernel
theorem dL_holds_659 : decode cL_holds 659 = .ok (.iconst 1, 1) := by decide +kernel
theorem dL_holds_660 : decode cL_holds 660 = .ok (.if_icmp .ne 7, 3) := by decide +kernel
theorem dL_holds_663 : decode cL_holds 663 = .ok (.iconst 1, 1) := by decide +kernel
theorem dL_holds_664 : decode cL_holds 664 = .ok (.goto 4, 3) := by decide +kernel
theorem dL_holds_667 : decode cL_holds 667 = .ok (.iconst 0, 1) := by decide +kernel
theorem dL_holds_668 : decode cL_holds 668 = .ok (.ireturn, 1) := by decide +kernel
