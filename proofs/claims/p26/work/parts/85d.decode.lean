theorem dL_refuses_539 : decode cL_refuses 539 = .ok (.invokestatic 146, 3) := by decide +kernel
theorem dL_refuses_542 : decode cL_refuses 542 = .ok (.ldc 22, 2) := by decide +kernel
theorem dL_refuses_544 : decode cL_refuses 544 = .ok (.if_icmp .ne 41, 3) := by decide +kernel
theorem dL_refuses_547 : decode cL_refuses 547 = .ok (.aload_n 0, 1) := by decide +kernel
theorem dL_refuses_548 : decode cL_refuses 548 = .ok (.iconst 1, 1) := by decide +kernel
theorem dL_refuses_549 : decode cL_refuses 549 = .ok (.ldc2_w 150, 3) := by decide +kernel
theorem dL_refuses_552 : decode cL_refuses 552 = .ok (.iload_n 1, 1) := by decide +kernel
theorem dL_refuses_553 : decode cL_refuses 553 = .ok (.i2l, 1) := by decide +kernel
theorem dL_refuses_554 : decode cL_refuses 554 = .ok (.ladd, 1) := by decide +kernel
theorem dL_refuses_555 : decode cL_refuses 555 = .ok (.invokestatic 146, 3) := by decide +kernel
theorem dL_refuses_558 : decode cL_refuses 558 = .ok (.ldc 22, 2) := by decide +kernel
theorem dL_refuses_560 : decode cL_refuses 560 = .ok (.if_icmp .ne 25, 3) := by decide +kernel
theorem dL_refuses_563 : decode cL_refuses 563 = .ok (.aload_n 0, 1) := by decide +kernel
theorem dL_refuses_564 : decode cL_refuses 564 = .ok (.iload_n 1, 1) := by decide +kernel
theorem dL_refuses_565 : decode cL_refuses 565 = .ok (.i2l, 1) := by decide +kernel
theorem dL_refuses_566 : decode cL_refuses 566 = .ok (.bipush 61, 2) := by decide +kernel
theorem dL_refuses_568 : decode cL_refuses 568 = .ok (.iload_n 1, 1) := by decide +kernel
theorem dL_refuses_569 : decode cL_refuses 569 = .ok (.bipush 9, 2) := by decide +kernel
theorem dL_refuses_571 : decode cL_refuses 571 = .ok (.irem, 1) := by decide +kernel
theorem dL_refuses_572 : decode cL_refuses 572 = .ok (.iadd, 1) := by decide +kernel
theorem dL_refuses_573 : decode cL_refuses 573 = .ok (.invokestatic 152, 3) := by decide +kernel
theorem dL_refuses_576 : decode cL_refuses 576 = .ok (.ldc 22, 2) := by decide +kernel
theorem dL_refuses_578 : decode cL_refuses 578 = .ok (.if_icmp .ne 7, 3) := by decide +kernel
theorem dL_refuses_581 : decode cL_refuses 581 = .ok (.iconst 1, 1) := by decide +kernel
theorem dL_refuses_582 : decode cL_refuses 582 = .ok (.goto 4, 3) := by decide +kernel
theorem dL_refuses_585 : decode cL_refuses 585 = .ok (.iconst 0, 1) := by decide +kernel
theorem dL_refuses_586 : decode cL_refuses 586 = .ok (.ireturn, 1) := by decide +kernel
