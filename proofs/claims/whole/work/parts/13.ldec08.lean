theorem d_L_law_823 : decode code 823 = .ok (.ireturn, 1) := by decide +kernel
theorem d_L_law_824 : decode code 824 = .ok (.goto 59, 3) := by decide +kernel
theorem d_L_law_827 : decode code 827 = .ok (.aload_n 1, 1) := by decide +kernel
theorem d_L_law_828 : decode code 828 = .ok (.aload_n 0, 1) := by decide +kernel
theorem d_L_law_829 : decode code 829 = .ok (.iload 4, 2) := by decide +kernel
theorem d_L_law_831 : decode code 831 = .ok (.iconst 1, 1) := by decide +kernel
theorem d_L_law_832 : decode code 832 = .ok (.iadd, 1) := by decide +kernel
theorem d_L_law_833 : decode code 833 = .ok (.iaload, 1) := by decide +kernel
theorem d_L_law_834 : decode code 834 = .ok (.aload_n 3, 1) := by decide +kernel
theorem d_L_law_835 : decode code 835 = .ok (.invokestatic 117, 3) := by decide +kernel
theorem d_L_law_838 : decode code 838 = .ok (.istore 5, 2) := by decide +kernel
theorem d_L_law_840 : decode code 840 = .ok (.aload_n 2, 1) := by decide +kernel
theorem d_L_law_841 : decode code 841 = .ok (.aload_n 0, 1) := by decide +kernel
theorem d_L_law_842 : decode code 842 = .ok (.iload 4, 2) := by decide +kernel
theorem d_L_law_844 : decode code 844 = .ok (.iconst 1, 1) := by decide +kernel
theorem d_L_law_845 : decode code 845 = .ok (.iadd, 1) := by decide +kernel
theorem d_L_law_846 : decode code 846 = .ok (.iaload, 1) := by decide +kernel
theorem d_L_law_847 : decode code 847 = .ok (.invokevirtual 119, 3) := by decide +kernel
theorem d_L_law_850 : decode code 850 = .ok (.istore 6, 2) := by decide +kernel
theorem d_L_law_852 : decode code 852 = .ok (.aload_n 2, 1) := by decide +kernel
theorem d_L_law_853 : decode code 853 = .ok (.invokevirtual 73, 3) := by decide +kernel
theorem d_L_law_856 : decode code 856 = .ok (.iload 5, 2) := by decide +kernel
theorem d_L_law_858 : decode code 858 = .ok (.if_icmp .eq 5, 3) := by decide +kernel
theorem d_L_law_861 : decode code 861 = .ok (.iconst 0, 1) := by decide +kernel
theorem d_L_law_862 : decode code 862 = .ok (.ireturn, 1) := by decide +kernel
theorem d_L_law_863 : decode code 863 = .ok (.iload 5, 2) := by decide +kernel
theorem d_L_law_865 : decode code 865 = .ok (.ifCond .ne 15, 3) := by decide +kernel
theorem d_L_law_868 : decode code 868 = .ok (.aload_n 3, 1) := by decide +kernel
theorem d_L_law_869 : decode code 869 = .ok (.iconst 0, 1) := by decide +kernel
theorem d_L_law_870 : decode code 870 = .ok (.laload, 1) := by decide +kernel
theorem d_L_law_871 : decode code 871 = .ok (.iload 6, 2) := by decide +kernel
theorem d_L_law_873 : decode code 873 = .ok (.i2l, 1) := by decide +kernel
theorem d_L_law_874 : decode code 874 = .ok (.lcmp, 1) := by decide +kernel
theorem d_L_law_875 : decode code 875 = .ok (.ifCond .eq 5, 3) := by decide +kernel
theorem d_L_law_878 : decode code 878 = .ok (.iconst 0, 1) := by decide +kernel
theorem d_L_law_879 : decode code 879 = .ok (.ireturn, 1) := by decide +kernel
theorem d_L_law_880 : decode code 880 = .ok (.goto 3, 3) := by decide +kernel
theorem d_L_law_883 : decode code 883 = .ok (.iinc 4 4, 3) := by decide +kernel
theorem d_L_law_886 : decode code 886 = .ok (.goto (-863), 3) := by decide +kernel
theorem d_L_law_889 : decode code 889 = .ok (.iconst 1, 1) := by decide +kernel
theorem d_L_law_890 : decode code 890 = .ok (.ireturn, 1) := by decide +kernel
