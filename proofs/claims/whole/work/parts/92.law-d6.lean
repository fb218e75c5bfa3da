theorem d_law_581 : decode code 581 = .ok (.invokevirtual 84, 3) := by decide +kernel
theorem d_law_584 : decode code 584 = .ok (.istore 6, 2) := by decide +kernel
theorem d_law_586 : decode code 586 = .ok (.aload_n 2, 1) := by decide +kernel
theorem d_law_587 : decode code 587 = .ok (.invokevirtual 44, 3) := by decide +kernel
theorem d_law_590 : decode code 590 = .ok (.iload 5, 2) := by decide +kernel
theorem d_law_592 : decode code 592 = .ok (.if_icmp .eq 5, 3) := by decide +kernel
theorem d_law_595 : decode code 595 = .ok (.iconst 0, 1) := by decide +kernel
theorem d_law_596 : decode code 596 = .ok (.ireturn, 1) := by decide +kernel
theorem d_law_597 : decode code 597 = .ok (.iload 5, 2) := by decide +kernel
theorem d_law_599 : decode code 599 = .ok (.ifCond .ne 15, 3) := by decide +kernel
theorem d_law_602 : decode code 602 = .ok (.aload_n 3, 1) := by decide +kernel
theorem d_law_603 : decode code 603 = .ok (.iconst 0, 1) := by decide +kernel
theorem d_law_604 : decode code 604 = .ok (.laload, 1) := by decide +kernel
theorem d_law_605 : decode code 605 = .ok (.iload 6, 2) := by decide +kernel
theorem d_law_607 : decode code 607 = .ok (.i2l, 1) := by decide +kernel
theorem d_law_608 : decode code 608 = .ok (.lcmp, 1) := by decide +kernel
theorem d_law_609 : decode code 609 = .ok (.ifCond .eq 5, 3) := by decide +kernel
theorem d_law_612 : decode code 612 = .ok (.iconst 0, 1) := by decide +kernel
theorem d_law_613 : decode code 613 = .ok (.ireturn, 1) := by decide +kernel
theorem d_law_614 : decode code 614 = .ok (.goto 16, 3) := by decide +kernel
theorem d_law_617 : decode code 617 = .ok (.aload_n 1, 1) := by decide +kernel
theorem d_law_618 : decode code 618 = .ok (.invokevirtual 85, 3) := by decide +kernel
theorem d_law_621 : decode code 621 = .ok (.aload_n 2, 1) := by decide +kernel
theorem d_law_622 : decode code 622 = .ok (.invokevirtual 88, 3) := by decide +kernel
theorem d_law_625 : decode code 625 = .ok (.if_icmp .eq 5, 3) := by decide +kernel
theorem d_law_628 : decode code 628 = .ok (.iconst 0, 1) := by decide +kernel
theorem d_law_629 : decode code 629 = .ok (.ireturn, 1) := by decide +kernel
theorem d_law_630 : decode code 630 = .ok (.iinc 4 5, 3) := by decide +kernel
theorem d_law_633 : decode code 633 = .ok (.goto (-610), 3) := by decide +kernel
theorem d_law_636 : decode code 636 = .ok (.iconst 1, 1) := by decide +kernel
theorem d_law_637 : decode code 637 = .ok (.ireturn, 1) := by decide +kernel
