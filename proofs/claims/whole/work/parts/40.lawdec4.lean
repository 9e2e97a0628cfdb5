/-! DECODED INSTRUCTIONS OF THE LAW -/
theorem d_W_law_559 : decode code 559 = .ok (.invokestatic 106, 3) := by decide +kernel
theorem d_W_law_562 : decode code 562 = .ok (.istore 6, 2) := by decide +kernel
theorem d_W_law_564 : decode code 564 = .ok (.aload_n 2, 1) := by decide +kernel
theorem d_W_law_565 : decode code 565 = .ok (.aload_n 0, 1) := by decide +kernel
theorem d_W_law_566 : decode code 566 = .ok (.iload 5, 2) := by decide +kernel
theorem d_W_law_568 : decode code 568 = .ok (.iconst 1, 1) := by decide +kernel
theorem d_W_law_569 : decode code 569 = .ok (.iadd, 1) := by decide +kernel
theorem d_W_law_570 : decode code 570 = .ok (.iaload, 1) := by decide +kernel
theorem d_W_law_571 : decode code 571 = .ok (.aload_n 0, 1) := by decide +kernel
theorem d_W_law_572 : decode code 572 = .ok (.iload 5, 2) := by decide +kernel
theorem d_W_law_574 : decode code 574 = .ok (.iconst 2, 1) := by decide +kernel
theorem d_W_law_575 : decode code 575 = .ok (.iadd, 1) := by decide +kernel
theorem d_W_law_576 : decode code 576 = .ok (.iaload, 1) := by decide +kernel
theorem d_W_law_577 : decode code 577 = .ok (.invokevirtual 108, 3) := by decide +kernel
theorem d_W_law_580 : decode code 580 = .ok (.istore 7, 2) := by decide +kernel
theorem d_W_law_582 : decode code 582 = .ok (.aload_n 2, 1) := by decide +kernel
theorem d_W_law_583 : decode code 583 = .ok (.invokevirtual 78, 3) := by decide +kernel
theorem d_W_law_586 : decode code 586 = .ok (.iload 6, 2) := by decide +kernel
theorem d_W_law_588 : decode code 588 = .ok (.if_icmp .eq 5, 3) := by decide +kernel
theorem d_W_law_591 : decode code 591 = .ok (.iconst 0, 1) := by decide +kernel
theorem d_W_law_592 : decode code 592 = .ok (.ireturn, 1) := by decide +kernel
theorem d_W_law_593 : decode code 593 = .ok (.iload 6, 2) := by decide +kernel
theorem d_W_law_595 : decode code 595 = .ok (.ifCond .ne 15, 3) := by decide +kernel
theorem d_W_law_598 : decode code 598 = .ok (.aload_n 3, 1) := by decide +kernel
theorem d_W_law_599 : decode code 599 = .ok (.iconst 0, 1) := by decide +kernel
theorem d_W_law_600 : decode code 600 = .ok (.laload, 1) := by decide +kernel
theorem d_W_law_601 : decode code 601 = .ok (.iload 7, 2) := by decide +kernel
theorem d_W_law_603 : decode code 603 = .ok (.i2l, 1) := by decide +kernel
theorem d_W_law_604 : decode code 604 = .ok (.lcmp, 1) := by decide +kernel
theorem d_W_law_605 : decode code 605 = .ok (.ifCond .eq 5, 3) := by decide +kernel
theorem d_W_law_608 : decode code 608 = .ok (.iconst 0, 1) := by decide +kernel
theorem d_W_law_609 : decode code 609 = .ok (.ireturn, 1) := by decide +kernel
theorem d_W_law_610 : decode code 610 = .ok (.goto 373, 3) := by decide +kernel
theorem d_W_law_613 : decode code 613 = .ok (.aload_n 1, 1) := by decide +kernel
theorem d_W_law_614 : decode code 614 = .ok (.aload_n 3, 1) := by decide +kernel
theorem d_W_law_615 : decode code 615 = .ok (.invokestatic 109, 3) := by decide +kernel
theorem d_W_law_618 : decode code 618 = .ok (.istore 6, 2) := by decide +kernel
theorem d_W_law_620 : decode code 620 = .ok (.aload_n 2, 1) := by decide +kernel
theorem d_W_law_621 : decode code 621 = .ok (.invokevirtual 111, 3) := by decide +kernel
theorem d_W_law_624 : decode code 624 = .ok (.istore 7, 2) := by decide +kernel
theorem d_W_law_626 : decode code 626 = .ok (.aload_n 2, 1) := by decide +kernel
theorem d_W_law_627 : decode code 627 = .ok (.invokevirtual 78, 3) := by decide +kernel
theorem d_W_law_630 : decode code 630 = .ok (.iload 6, 2) := by decide +kernel
theorem d_W_law_632 : decode code 632 = .ok (.if_icmp .eq 5, 3) := by decide +kernel
theorem d_W_law_635 : decode code 635 = .ok (.iconst 0, 1) := by decide +kernel
theorem d_W_law_636 : decode code 636 = .ok (.ireturn, 1) := by decide +kernel
theorem d_W_law_637 : decode code 637 = .ok (.iload 6, 2) := by decide +kernel
theorem d_W_law_639 : decode code 639 = .ok (.ifCond .ne 15, 3) := by decide +kernel
theorem d_W_law_642 : decode code 642 = .ok (.aload_n 3, 1) := by decide +kernel
theorem d_W_law_643 : decode code 643 = .ok (.iconst 0, 1) := by decide +kernel
theorem d_W_law_644 : decode code 644 = .ok (.laload, 1) := by decide +kernel
theorem d_W_law_645 : decode code 645 = .ok (.iload 7, 2) := by decide +kernel
theorem d_W_law_647 : decode code 647 = .ok (.i2l, 1) := by decide +kernel
theorem d_W_law_648 : decode code 648 = .ok (.lcmp, 1) := by decide +kernel
theorem d_W_law_649 : decode code 649 = .ok (.ifCond .eq 5, 3) := by decide +kernel
theorem d_W_law_652 : decode code 652 = .ok (.iconst 0, 1) := by decide +kernel
theorem d_W_law_653 : decode code 653 = .ok (.ireturn, 1) := by decide +kernel
theorem d_W_law_654 : decode code 654 = .ok (.goto 329, 3) := by decide +kernel
theorem d_W_law_657 : decode code 657 = .ok (.aload_n 1, 1) := by decide +kernel
theorem d_W_law_658 : decode code 658 = .ok (.aload_n 0, 1) := by decide +kernel
theorem d_W_law_659 : decode code 659 = .ok (.iload 5, 2) := by decide +kernel
theorem d_W_law_661 : decode code 661 = .ok (.iconst 1, 1) := by decide +kernel
theorem d_W_law_662 : decode code 662 = .ok (.iadd, 1) := by decide +kernel
theorem d_W_law_663 : decode code 663 = .ok (.iaload, 1) := by decide +kernel
theorem d_W_law_664 : decode code 664 = .ok (.aload_n 3, 1) := by decide +kernel
theorem d_W_law_665 : decode code 665 = .ok (.invokestatic 112, 3) := by decide +kernel
theorem d_W_law_668 : decode code 668 = .ok (.istore 6, 2) := by decide +kernel
theorem d_W_law_670 : decode code 670 = .ok (.aload_n 2, 1) := by decide +kernel
theorem d_W_law_671 : decode code 671 = .ok (.aload_n 0, 1) := by decide +kernel
theorem d_W_law_672 : decode code 672 = .ok (.iload 5, 2) := by decide +kernel
theorem d_W_law_674 : decode code 674 = .ok (.iconst 1, 1) := by decide +kernel
theorem d_W_law_675 : decode code 675 = .ok (.iadd, 1) := by decide +kernel
theorem d_W_law_676 : decode code 676 = .ok (.iaload, 1) := by decide +kernel
theorem d_W_law_677 : decode code 677 = .ok (.invokevirtual 114, 3) := by decide +kernel
theorem d_W_law_680 : decode code 680 = .ok (.istore 7, 2) := by decide +kernel
