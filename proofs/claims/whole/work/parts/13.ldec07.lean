theorem d_L_law_726 : decode code 726 = .ok (.istore 5, 2) := by decide +kernel
theorem d_L_law_728 : decode code 728 = .ok (.aload_n 2, 1) := by decide +kernel
theorem d_L_law_729 : decode code 729 = .ok (.aload_n 0, 1) := by decide +kernel
theorem d_L_law_730 : decode code 730 = .ok (.iload 4, 2) := by decide +kernel
theorem d_L_law_732 : decode code 732 = .ok (.iconst 1, 1) := by decide +kernel
theorem d_L_law_733 : decode code 733 = .ok (.iadd, 1) := by decide +kernel
theorem d_L_law_734 : decode code 734 = .ok (.iaload, 1) := by decide +kernel
theorem d_L_law_735 : decode code 735 = .ok (.invokevirtual 113, 3) := by decide +kernel
theorem d_L_law_738 : decode code 738 = .ok (.istore 6, 2) := by decide +kernel
theorem d_L_law_740 : decode code 740 = .ok (.aload_n 2, 1) := by decide +kernel
theorem d_L_law_741 : decode code 741 = .ok (.invokevirtual 73, 3) := by decide +kernel
theorem d_L_law_744 : decode code 744 = .ok (.iload 5, 2) := by decide +kernel
theorem d_L_law_746 : decode code 746 = .ok (.if_icmp .eq 5, 3) := by decide +kernel
theorem d_L_law_749 : decode code 749 = .ok (.iconst 0, 1) := by decide +kernel
theorem d_L_law_750 : decode code 750 = .ok (.ireturn, 1) := by decide +kernel
theorem d_L_law_751 : decode code 751 = .ok (.iload 5, 2) := by decide +kernel
theorem d_L_law_753 : decode code 753 = .ok (.ifCond .ne 15, 3) := by decide +kernel
theorem d_L_law_756 : decode code 756 = .ok (.aload_n 3, 1) := by decide +kernel
theorem d_L_law_757 : decode code 757 = .ok (.iconst 0, 1) := by decide +kernel
theorem d_L_law_758 : decode code 758 = .ok (.laload, 1) := by decide +kernel
theorem d_L_law_759 : decode code 759 = .ok (.iload 6, 2) := by decide +kernel
theorem d_L_law_761 : decode code 761 = .ok (.i2l, 1) := by decide +kernel
theorem d_L_law_762 : decode code 762 = .ok (.lcmp, 1) := by decide +kernel
theorem d_L_law_763 : decode code 763 = .ok (.ifCond .eq 5, 3) := by decide +kernel
theorem d_L_law_766 : decode code 766 = .ok (.iconst 0, 1) := by decide +kernel
theorem d_L_law_767 : decode code 767 = .ok (.ireturn, 1) := by decide +kernel
theorem d_L_law_768 : decode code 768 = .ok (.goto 115, 3) := by decide +kernel
theorem d_L_law_771 : decode code 771 = .ok (.aload_n 1, 1) := by decide +kernel
theorem d_L_law_772 : decode code 772 = .ok (.aload_n 0, 1) := by decide +kernel
theorem d_L_law_773 : decode code 773 = .ok (.iload 4, 2) := by decide +kernel
theorem d_L_law_775 : decode code 775 = .ok (.iconst 1, 1) := by decide +kernel
theorem d_L_law_776 : decode code 776 = .ok (.iadd, 1) := by decide +kernel
theorem d_L_law_777 : decode code 777 = .ok (.iaload, 1) := by decide +kernel
theorem d_L_law_778 : decode code 778 = .ok (.aload_n 3, 1) := by decide +kernel
theorem d_L_law_779 : decode code 779 = .ok (.invokestatic 114, 3) := by decide +kernel
theorem d_L_law_782 : decode code 782 = .ok (.istore 5, 2) := by decide +kernel
theorem d_L_law_784 : decode code 784 = .ok (.aload_n 2, 1) := by decide +kernel
theorem d_L_law_785 : decode code 785 = .ok (.aload_n 0, 1) := by decide +kernel
theorem d_L_law_786 : decode code 786 = .ok (.iload 4, 2) := by decide +kernel
theorem d_L_law_788 : decode code 788 = .ok (.iconst 1, 1) := by decide +kernel
theorem d_L_law_789 : decode code 789 = .ok (.iadd, 1) := by decide +kernel
theorem d_L_law_790 : decode code 790 = .ok (.iaload, 1) := by decide +kernel
theorem d_L_law_791 : decode code 791 = .ok (.invokevirtual 116, 3) := by decide +kernel
theorem d_L_law_794 : decode code 794 = .ok (.istore 6, 2) := by decide +kernel
theorem d_L_law_796 : decode code 796 = .ok (.aload_n 2, 1) := by decide +kernel
theorem d_L_law_797 : decode code 797 = .ok (.invokevirtual 73, 3) := by decide +kernel
theorem d_L_law_800 : decode code 800 = .ok (.iload 5, 2) := by decide +kernel
theorem d_L_law_802 : decode code 802 = .ok (.if_icmp .eq 5, 3) := by decide +kernel
theorem d_L_law_805 : decode code 805 = .ok (.iconst 0, 1) := by decide +kernel
theorem d_L_law_806 : decode code 806 = .ok (.ireturn, 1) := by decide +kernel
theorem d_L_law_807 : decode code 807 = .ok (.iload 5, 2) := by decide +kernel
theorem d_L_law_809 : decode code 809 = .ok (.ifCond .ne 15, 3) := by decide +kernel
theorem d_L_law_812 : decode code 812 = .ok (.aload_n 3, 1) := by decide +kernel
theorem d_L_law_813 : decode code 813 = .ok (.iconst 0, 1) := by decide +kernel
theorem d_L_law_814 : decode code 814 = .ok (.laload, 1) := by decide +kernel
theorem d_L_law_815 : decode code 815 = .ok (.iload 6, 2) := by decide +kernel
theorem d_L_law_817 : decode code 817 = .ok (.i2l, 1) := by decide +kernel
theorem d_L_law_818 : decode code 818 = .ok (.lcmp, 1) := by decide +kernel
theorem d_L_law_819 : decode code 819 = .ok (.ifCond .eq 5, 3) := by decide +kernel
theorem d_L_law_822 : decode code 822 = .ok (.iconst 0, 1) := by decide +kernel
