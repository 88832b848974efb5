theorem d_L_law_635 : decode code 635 = .ok (.iload 6, 2) := by decide +kernel
theorem d_L_law_637 : decode code 637 = .ok (.i2l, 1) := by decide +kernel
theorem d_L_law_638 : decode code 638 = .ok (.lcmp, 1) := by decide +kernel
theorem d_L_law_639 : decode code 639 = .ok (.ifCond .eq 5, 3) := by decide +kernel
theorem d_L_law_642 : decode code 642 = .ok (.iconst 0, 1) := by decide +kernel
theorem d_L_law_643 : decode code 643 = .ok (.ireturn, 1) := by decide +kernel
theorem d_L_law_644 : decode code 644 = .ok (.goto 239, 3) := by decide +kernel
theorem d_L_law_647 : decode code 647 = .ok (.aload_n 1, 1) := by decide +kernel
theorem d_L_law_648 : decode code 648 = .ok (.aload_n 0, 1) := by decide +kernel
theorem d_L_law_649 : decode code 649 = .ok (.iload 4, 2) := by decide +kernel
theorem d_L_law_651 : decode code 651 = .ok (.iconst 1, 1) := by decide +kernel
theorem d_L_law_652 : decode code 652 = .ok (.iadd, 1) := by decide +kernel
theorem d_L_law_653 : decode code 653 = .ok (.iaload, 1) := by decide +kernel
theorem d_L_law_654 : decode code 654 = .ok (.aload_n 0, 1) := by decide +kernel
theorem d_L_law_655 : decode code 655 = .ok (.iload 4, 2) := by decide +kernel
theorem d_L_law_657 : decode code 657 = .ok (.iconst 2, 1) := by decide +kernel
theorem d_L_law_658 : decode code 658 = .ok (.iadd, 1) := by decide +kernel
theorem d_L_law_659 : decode code 659 = .ok (.iaload, 1) := by decide +kernel
theorem d_L_law_660 : decode code 660 = .ok (.aload_n 3, 1) := by decide +kernel
theorem d_L_law_661 : decode code 661 = .ok (.invokestatic 108, 3) := by decide +kernel
theorem d_L_law_664 : decode code 664 = .ok (.istore 5, 2) := by decide +kernel
theorem d_L_law_666 : decode code 666 = .ok (.aload_n 2, 1) := by decide +kernel
theorem d_L_law_667 : decode code 667 = .ok (.aload_n 0, 1) := by decide +kernel
theorem d_L_law_668 : decode code 668 = .ok (.iload 4, 2) := by decide +kernel
theorem d_L_law_670 : decode code 670 = .ok (.iconst 1, 1) := by decide +kernel
theorem d_L_law_671 : decode code 671 = .ok (.iadd, 1) := by decide +kernel
theorem d_L_law_672 : decode code 672 = .ok (.iaload, 1) := by decide +kernel
theorem d_L_law_673 : decode code 673 = .ok (.aload_n 0, 1) := by decide +kernel
theorem d_L_law_674 : decode code 674 = .ok (.iload 4, 2) := by decide +kernel
theorem d_L_law_676 : decode code 676 = .ok (.iconst 2, 1) := by decide +kernel
theorem d_L_law_677 : decode code 677 = .ok (.iadd, 1) := by decide +kernel
theorem d_L_law_678 : decode code 678 = .ok (.iaload, 1) := by decide +kernel
theorem d_L_law_679 : decode code 679 = .ok (.invokevirtual 110, 3) := by decide +kernel
theorem d_L_law_682 : decode code 682 = .ok (.istore 6, 2) := by decide +kernel
theorem d_L_law_684 : decode code 684 = .ok (.aload_n 2, 1) := by decide +kernel
theorem d_L_law_685 : decode code 685 = .ok (.invokevirtual 73, 3) := by decide +kernel
theorem d_L_law_688 : decode code 688 = .ok (.iload 5, 2) := by decide +kernel
theorem d_L_law_690 : decode code 690 = .ok (.if_icmp .eq 5, 3) := by decide +kernel
theorem d_L_law_693 : decode code 693 = .ok (.iconst 0, 1) := by decide +kernel
theorem d_L_law_694 : decode code 694 = .ok (.ireturn, 1) := by decide +kernel
theorem d_L_law_695 : decode code 695 = .ok (.iload 5, 2) := by decide +kernel
theorem d_L_law_697 : decode code 697 = .ok (.ifCond .ne 15, 3) := by decide +kernel
theorem d_L_law_700 : decode code 700 = .ok (.aload_n 3, 1) := by decide +kernel
theorem d_L_law_701 : decode code 701 = .ok (.iconst 0, 1) := by decide +kernel
theorem d_L_law_702 : decode code 702 = .ok (.laload, 1) := by decide +kernel
theorem d_L_law_703 : decode code 703 = .ok (.iload 6, 2) := by decide +kernel
theorem d_L_law_705 : decode code 705 = .ok (.i2l, 1) := by decide +kernel
theorem d_L_law_706 : decode code 706 = .ok (.lcmp, 1) := by decide +kernel
theorem d_L_law_707 : decode code 707 = .ok (.ifCond .eq 5, 3) := by decide +kernel
theorem d_L_law_710 : decode code 710 = .ok (.iconst 0, 1) := by decide +kernel
theorem d_L_law_711 : decode code 711 = .ok (.ireturn, 1) := by decide +kernel
theorem d_L_law_712 : decode code 712 = .ok (.goto 171, 3) := by decide +kernel
theorem d_L_law_715 : decode code 715 = .ok (.aload_n 1, 1) := by decide +kernel
theorem d_L_law_716 : decode code 716 = .ok (.aload_n 0, 1) := by decide +kernel
theorem d_L_law_717 : decode code 717 = .ok (.iload 4, 2) := by decide +kernel
theorem d_L_law_719 : decode code 719 = .ok (.iconst 1, 1) := by decide +kernel
theorem d_L_law_720 : decode code 720 = .ok (.iadd, 1) := by decide +kernel
theorem d_L_law_721 : decode code 721 = .ok (.iaload, 1) := by decide +kernel
theorem d_L_law_722 : decode code 722 = .ok (.aload_n 3, 1) := by decide +kernel
theorem d_L_law_723 : decode code 723 = .ok (.invokestatic 111, 3) := by decide +kernel
