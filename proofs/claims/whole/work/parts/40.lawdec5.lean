/-! DECODED INSTRUCTIONS OF THE LAW -/
theorem d_W_law_682 : decode code 682 = .ok (.aload_n 2, 1) := by decide +kernel
theorem d_W_law_683 : decode code 683 = .ok (.invokevirtual 78, 3) := by decide +kernel
theorem d_W_law_686 : decode code 686 = .ok (.iload 6, 2) := by decide +kernel
theorem d_W_law_688 : decode code 688 = .ok (.if_icmp .eq 5, 3) := by decide +kernel
theorem d_W_law_691 : decode code 691 = .ok (.iconst 0, 1) := by decide +kernel
theorem d_W_law_692 : decode code 692 = .ok (.ireturn, 1) := by decide +kernel
theorem d_W_law_693 : decode code 693 = .ok (.iload 6, 2) := by decide +kernel
theorem d_W_law_695 : decode code 695 = .ok (.ifCond .ne 15, 3) := by decide +kernel
theorem d_W_law_698 : decode code 698 = .ok (.aload_n 3, 1) := by decide +kernel
theorem d_W_law_699 : decode code 699 = .ok (.iconst 0, 1) := by decide +kernel
theorem d_W_law_700 : decode code 700 = .ok (.laload, 1) := by decide +kernel
theorem d_W_law_701 : decode code 701 = .ok (.iload 7, 2) := by decide +kernel
theorem d_W_law_703 : decode code 703 = .ok (.i2l, 1) := by decide +kernel
theorem d_W_law_704 : decode code 704 = .ok (.lcmp, 1) := by decide +kernel
theorem d_W_law_705 : decode code 705 = .ok (.ifCond .eq 5, 3) := by decide +kernel
theorem d_W_law_708 : decode code 708 = .ok (.iconst 0, 1) := by decide +kernel
theorem d_W_law_709 : decode code 709 = .ok (.ireturn, 1) := by decide +kernel
theorem d_W_law_710 : decode code 710 = .ok (.goto 273, 3) := by decide +kernel
theorem d_W_law_713 : decode code 713 = .ok (.aload_n 1, 1) := by decide +kernel
theorem d_W_law_714 : decode code 714 = .ok (.aload_n 0, 1) := by decide +kernel
theorem d_W_law_715 : decode code 715 = .ok (.iload 5, 2) := by decide +kernel
theorem d_W_law_717 : decode code 717 = .ok (.iconst 1, 1) := by decide +kernel
theorem d_W_law_718 : decode code 718 = .ok (.iadd, 1) := by decide +kernel
theorem d_W_law_719 : decode code 719 = .ok (.iaload, 1) := by decide +kernel
theorem d_W_law_720 : decode code 720 = .ok (.aload_n 0, 1) := by decide +kernel
theorem d_W_law_721 : decode code 721 = .ok (.iload 5, 2) := by decide +kernel
theorem d_W_law_723 : decode code 723 = .ok (.iconst 2, 1) := by decide +kernel
theorem d_W_law_724 : decode code 724 = .ok (.iadd, 1) := by decide +kernel
theorem d_W_law_725 : decode code 725 = .ok (.iaload, 1) := by decide +kernel
theorem d_W_law_726 : decode code 726 = .ok (.aload_n 3, 1) := by decide +kernel
theorem d_W_law_727 : decode code 727 = .ok (.invokestatic 115, 3) := by decide +kernel
theorem d_W_law_730 : decode code 730 = .ok (.istore 6, 2) := by decide +kernel
theorem d_W_law_732 : decode code 732 = .ok (.aload_n 2, 1) := by decide +kernel
theorem d_W_law_733 : decode code 733 = .ok (.aload_n 0, 1) := by decide +kernel
theorem d_W_law_734 : decode code 734 = .ok (.iload 5, 2) := by decide +kernel
theorem d_W_law_736 : decode code 736 = .ok (.iconst 1, 1) := by decide +kernel
theorem d_W_law_737 : decode code 737 = .ok (.iadd, 1) := by decide +kernel
theorem d_W_law_738 : decode code 738 = .ok (.iaload, 1) := by decide +kernel
theorem d_W_law_739 : decode code 739 = .ok (.aload_n 0, 1) := by decide +kernel
theorem d_W_law_740 : decode code 740 = .ok (.iload 5, 2) := by decide +kernel
theorem d_W_law_742 : decode code 742 = .ok (.iconst 2, 1) := by decide +kernel
theorem d_W_law_743 : decode code 743 = .ok (.iadd, 1) := by decide +kernel
theorem d_W_law_744 : decode code 744 = .ok (.iaload, 1) := by decide +kernel
theorem d_W_law_745 : decode code 745 = .ok (.invokevirtual 117, 3) := by decide +kernel
theorem d_W_law_748 : decode code 748 = .ok (.istore 7, 2) := by decide +kernel
theorem d_W_law_750 : decode code 750 = .ok (.aload_n 2, 1) := by decide +kernel
theorem d_W_law_751 : decode code 751 = .ok (.invokevirtual 78, 3) := by decide +kernel
theorem d_W_law_754 : decode code 754 = .ok (.iload 6, 2) := by decide +kernel
theorem d_W_law_756 : decode code 756 = .ok (.if_icmp .eq 5, 3) := by decide +kernel
theorem d_W_law_759 : decode code 759 = .ok (.iconst 0, 1) := by decide +kernel
theorem d_W_law_760 : decode code 760 = .ok (.ireturn, 1) := by decide +kernel
theorem d_W_law_761 : decode code 761 = .ok (.iload 6, 2) := by decide +kernel
theorem d_W_law_763 : decode code 763 = .ok (.ifCond .ne 15, 3) := by decide +kernel
theorem d_W_law_766 : decode code 766 = .ok (.aload_n 3, 1) := by decide +kernel
theorem d_W_law_767 : decode code 767 = .ok (.iconst 0, 1) := by decide +kernel
theorem d_W_law_768 : decode code 768 = .ok (.laload, 1) := by decide +kernel
theorem d_W_law_769 : decode code 769 = .ok (.iload 7, 2) := by decide +kernel
theorem d_W_law_771 : decode code 771 = .ok (.i2l, 1) := by decide +kernel
theorem d_W_law_772 : decode code 772 = .ok (.lcmp, 1) := by decide +kernel
theorem d_W_law_773 : decode code 773 = .ok (.ifCond .eq 5, 3) := by decide +kernel
theorem d_W_law_776 : decode code 776 = .ok (.iconst 0, 1) := by decide +kernel
theorem d_W_law_777 : decode code 777 = .ok (.ireturn, 1) := by decide +kernel
theorem d_W_law_778 : decode code 778 = .ok (.goto 205, 3) := by decide +kernel
theorem d_W_law_781 : decode code 781 = .ok (.aload_n 1, 1) := by decide +kernel
theorem d_W_law_782 : decode code 782 = .ok (.invokevirtual 118, 3) := by decide +kernel
theorem d_W_law_785 : decode code 785 = .ok (.aload_n 2, 1) := by decide +kernel
theorem d_W_law_786 : decode code 786 = .ok (.invokevirtual 121, 3) := by decide +kernel
theorem d_W_law_789 : decode code 789 = .ok (.if_icmp .eq 194, 3) := by decide +kernel
theorem d_W_law_792 : decode code 792 = .ok (.iconst 0, 1) := by decide +kernel
theorem d_W_law_793 : decode code 793 = .ok (.ireturn, 1) := by decide +kernel
theorem d_W_law_794 : decode code 794 = .ok (.aload_n 1, 1) := by decide +kernel
theorem d_W_law_795 : decode code 795 = .ok (.aload 4, 2) := by decide +kernel
theorem d_W_law_797 : decode code 797 = .ok (.invokestatic 122, 3) := by decide +kernel
theorem d_W_law_800 : decode code 800 = .ok (.istore 6, 2) := by decide +kernel
theorem d_W_law_802 : decode code 802 = .ok (.aload_n 2, 1) := by decide +kernel
