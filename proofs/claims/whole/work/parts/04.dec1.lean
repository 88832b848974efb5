theorem d_M_in_5 : decode b_M_in 5 = .ok (.iload_n 0, 1) := by decide +kernel
theorem d_M_in_6 : decode b_M_in 6 = .ok (.iload_n 2, 1) := by decide +kernel
theorem d_M_in_7 : decode b_M_in 7 = .ok (.if_icmp .gt 7, 3) := by decide +kernel
theorem d_M_in_10 : decode b_M_in 10 = .ok (.iconst 1, 1) := by decide +kernel
theorem d_M_in_11 : decode b_M_in 11 = .ok (.goto 4, 3) := by decide +kernel
theorem d_M_in_14 : decode b_M_in 14 = .ok (.iconst 0, 1) := by decide +kernel
theorem d_M_in_15 : decode b_M_in 15 = .ok (.ireturn, 1) := by decide +kernel
theorem d_M_goes_0 : decode b_M_goes 0 = .ok (.aload_n 0, 1) := by decide +kernel
theorem d_M_goes_1 : decode b_M_goes 1 = .ok (.iload_n 1, 1) := by decide +kernel
theorem d_M_goes_2 : decode b_M_goes 2 = .ok (.ifCond .ne 7, 3) := by decide +kernel
theorem d_M_goes_5 : decode b_M_goes 5 = .ok (.iconst 1, 1) := by decide +kernel
theorem d_M_goes_6 : decode b_M_goes 6 = .ok (.goto 20, 3) := by decide +kernel
theorem d_M_goes_9 : decode b_M_goes 9 = .ok (.iload_n 2, 1) := by decide +kernel
theorem d_M_goes_10 : decode b_M_goes 10 = .ok (.ifCond .ne 7, 3) := by decide +kernel
theorem d_M_goes_13 : decode b_M_goes 13 = .ok (.iconst 2, 1) := by decide +kernel
theorem d_M_goes_14 : decode b_M_goes 14 = .ok (.goto 12, 3) := by decide +kernel
theorem d_M_goes_17 : decode b_M_goes 17 = .ok (.iload_n 3, 1) := by decide +kernel
theorem d_M_goes_18 : decode b_M_goes 18 = .ok (.ifCond .ne 7, 3) := by decide +kernel
theorem d_M_goes_21 : decode b_M_goes 21 = .ok (.iconst 3, 1) := by decide +kernel
theorem d_M_goes_22 : decode b_M_goes 22 = .ok (.goto 4, 3) := by decide +kernel
theorem d_M_goes_25 : decode b_M_goes 25 = .ok (.iconst 0, 1) := by decide +kernel
theorem d_M_goes_26 : decode b_M_goes 26 = .ok (.putfield 56, 3) := by decide +kernel
theorem d_M_goes_29 : decode b_M_goes 29 = .ok (.aload_n 0, 1) := by decide +kernel
theorem d_M_goes_30 : decode b_M_goes 30 = .ok (.getfield 56, 3) := by decide +kernel
theorem d_M_goes_33 : decode b_M_goes 33 = .ok (.ifCond .ne 7, 3) := by decide +kernel
theorem d_M_goes_36 : decode b_M_goes 36 = .ok (.iconst 1, 1) := by decide +kernel
theorem d_M_goes_37 : decode b_M_goes 37 = .ok (.goto 4, 3) := by decide +kernel
theorem d_M_goes_40 : decode b_M_goes 40 = .ok (.iconst 0, 1) := by decide +kernel
theorem d_M_goes_41 : decode b_M_goes 41 = .ok (.ireturn, 1) := by decide +kernel
theorem d_M_isPiece_0 : decode b_M_isPiece 0 = .ok (.iload_n 1, 1) := by decide +kernel
theorem d_M_isPiece_1 : decode b_M_isPiece 1 = .ok (.iconst 0, 1) := by decide +kernel
theorem d_M_isPiece_2 : decode b_M_isPiece 2 = .ok (.aload_n 0, 1) := by decide +kernel
theorem d_M_isPiece_3 : decode b_M_isPiece 3 = .ok (.getfield 59, 3) := by decide +kernel
theorem d_M_isPiece_6 : decode b_M_isPiece 6 = .ok (.iconst 1, 1) := by decide +kernel
theorem d_M_isPiece_7 : decode b_M_isPiece 7 = .ok (.isub, 1) := by decide +kernel
theorem d_M_isPiece_8 : decode b_M_isPiece 8 = .ok (.invokestatic 62, 3) := by decide +kernel
theorem d_M_isPiece_11 : decode b_M_isPiece 11 = .ok (.ireturn, 1) := by decide +kernel
theorem d_M_changed_0 : decode b_M_changed 0 = .ok (.aload_n 0, 1) := by decide +kernel
theorem d_M_changed_1 : decode b_M_changed 1 = .ok (.iconst 0, 1) := by decide +kernel
theorem d_M_changed_2 : decode b_M_changed 2 = .ok (.putfield 66, 3) := by decide +kernel
theorem d_M_changed_5 : decode b_M_changed 5 = .ok (.aload_n 0, 1) := by decide +kernel
theorem d_M_changed_6 : decode b_M_changed 6 = .ok (.iconst 0, 1) := by decide +kernel
theorem d_M_changed_7 : decode b_M_changed 7 = .ok (.putfield 70, 3) := by decide +kernel
theorem d_M_changed_10 : decode b_M_changed 10 = .ok (.return_, 1) := by decide +kernel
theorem d_M_cell_0 : decode b_M_cell 0 = .ok (.bipush 20, 2) := by decide +kernel
theorem d_M_cell_2 : decode b_M_cell 2 = .ok (.iload_n 0, 1) := by decide +kernel
theorem d_M_cell_3 : decode b_M_cell 3 = .ok (.imul, 1) := by decide +kernel
theorem d_M_cell_4 : decode b_M_cell 4 = .ok (.iconst 5, 1) := by decide +kernel
theorem d_M_cell_5 : decode b_M_cell 5 = .ok (.iload_n 1, 1) := by decide +kernel
theorem d_M_cell_6 : decode b_M_cell 6 = .ok (.imul, 1) := by decide +kernel
theorem d_M_cell_7 : decode b_M_cell 7 = .ok (.iadd, 1) := by decide +kernel
theorem d_M_cell_8 : decode b_M_cell 8 = .ok (.iload_n 2, 1) := by decide +kernel
theorem d_M_cell_9 : decode b_M_cell 9 = .ok (.iadd, 1) := by decide +kernel
theorem d_M_cell_10 : decode b_M_cell 10 = .ok (.ireturn, 1) := by decide +kernel
theorem d_M_piles_0 : decode b_M_piles 0 = .ok (.aload_n 0, 1) := by decide +kernel
theorem d_M_piles_1 : decode b_M_piles 1 = .ok (.iload_n 1, 1) := by decide +kernel
theorem d_M_piles_2 : decode b_M_piles 2 = .ok (.iconst 1, 1) := by decide +kernel
theorem d_M_piles_3 : decode b_M_piles 3 = .ok (.iconst 4, 1) := by decide +kernel
theorem d_M_piles_4 : decode b_M_piles 4 = .ok (.invokestatic 62, 3) := by decide +kernel
theorem d_M_piles_7 : decode b_M_piles 7 = .ok (.ifCond .eq 16, 3) := by decide +kernel
theorem d_M_piles_10 : decode b_M_piles 10 = .ok (.iload_n 2, 1) := by decide +kernel
theorem d_M_piles_11 : decode b_M_piles 11 = .ok (.iconst 1, 1) := by decide +kernel
theorem d_M_piles_12 : decode b_M_piles 12 = .ok (.iconst 5, 1) := by decide +kernel
theorem d_M_piles_13 : decode b_M_piles 13 = .ok (.invokestatic 62, 3) := by decide +kernel
theorem d_M_piles_16 : decode b_M_piles 16 = .ok (.ifCond .eq 7, 3) := by decide +kernel
theorem d_M_piles_19 : decode b_M_piles 19 = .ok (.iconst 1, 1) := by decide +kernel
theorem d_M_piles_20 : decode b_M_piles 20 = .ok (.goto 4, 3) := by decide +kernel
theorem d_M_piles_23 : decode b_M_piles 23 = .ok (.iconst 0, 1) := by decide +kernel
theorem d_M_piles_24 : decode b_M_piles 24 = .ok (.iconst 1, 1) := by decide +kernel
theorem d_M_piles_25 : decode b_M_piles 25 = .ok (.iconst 1, 1) := by decide +kernel
theorem d_M_piles_26 : decode b_M_piles 26 = .ok (.invokevirtual 73, 3) := by decide +kernel
theorem d_M_piles_29 : decode b_M_piles 29 = .ok (.ifCond .ne 4, 3) := by decide +kernel
theorem d_M_piles_32 : decode b_M_piles 32 = .ok (.return_, 1) := by decide +kernel
theorem d_M_piles_33 : decode b_M_piles 33 = .ok (.aload_n 0, 1) := by decide +kernel
theorem d_M_piles_34 : decode b_M_piles 34 = .ok (.iload_n 1, 1) := by decide +kernel
theorem d_M_piles_35 : decode b_M_piles 35 = .ok (.putfield 7, 3) := by decide +kernel
theorem d_M_piles_38 : decode b_M_piles 38 = .ok (.aload_n 0, 1) := by decide +kernel
theorem d_M_piles_39 : decode b_M_piles 39 = .ok (.iload_n 2, 1) := by decide +kernel
theorem d_M_piles_40 : decode b_M_piles 40 = .ok (.putfield 13, 3) := by decide +kernel
theorem d_M_piles_43 : decode b_M_piles 43 = .ok (.aload_n 0, 1) := by decide +kernel
theorem d_M_piles_44 : decode b_M_piles 44 = .ok (.iconst 0, 1) := by decide +kernel
theorem d_M_piles_45 : decode b_M_piles 45 = .ok (.putfield 59, 3) := by decide +kernel
theorem d_M_piles_48 : decode b_M_piles 48 = .ok (.aload_n 0, 1) := by decide +kernel
theorem d_M_piles_49 : decode b_M_piles 49 = .ok (.iconst 0, 1) := by decide +kernel
theorem d_M_piles_50 : decode b_M_piles 50 = .ok (.putfield 77, 3) := by decide +kernel
theorem d_M_piles_53 : decode b_M_piles 53 = .ok (.aload_n 0, 1) := by decide +kernel
theorem d_M_piles_54 : decode b_M_piles 54 = .ok (.getfield 35, 3) := by decide +kernel
theorem d_M_piles_57 : decode b_M_piles 57 = .ok (.iconst 0, 1) := by decide +kernel
theorem d_M_piles_58 : decode b_M_piles 58 = .ok (.iconst 0, 1) := by decide +kernel
theorem d_M_piles_59 : decode b_M_piles 59 = .ok (.iastore, 1) := by decide +kernel
theorem d_M_piles_60 : decode b_M_piles 60 = .ok (.iconst 0, 1) := by decide +kernel
theorem d_M_piles_61 : decode b_M_piles 61 = .ok (.istore_n 3, 1) := by decide +kernel
theorem d_M_piles_62 : decode b_M_piles 62 = .ok (.iload_n 3, 1) := by decide +kernel
theorem d_M_piles_63 : decode b_M_piles 63 = .ok (.iconst 4, 1) := by decide +kernel
theorem d_M_piles_64 : decode b_M_piles 64 = .ok (.if_icmp .ge 16, 3) := by decide +kernel
theorem d_M_piles_67 : decode b_M_piles 67 = .ok (.aload_n 0, 1) := by decide +kernel
theorem d_M_piles_68 : decode b_M_piles 68 = .ok (.getfield 32, 3) := by decide +kernel
theorem d_M_piles_71 : decode b_M_piles 71 = .ok (.iload_n 3, 1) := by decide +kernel
theorem d_M_piles_72 : decode b_M_piles 72 = .ok (.iconst 0, 1) := by decide +kernel
theorem d_M_piles_73 : decode b_M_piles 73 = .ok (.iastore, 1) := by decide +kernel
theorem d_M_piles_74 : decode b_M_piles 74 = .ok (.iinc 3 1, 3) := by decide +kernel
theorem d_M_piles_77 : decode b_M_piles 77 = .ok (.goto (-15), 3) := by decide +kernel
theorem d_M_piles_80 : decode b_M_piles 80 = .ok (.aload_n 0, 1) := by decide +kernel
theorem d_M_piles_81 : decode b_M_piles 81 = .ok (.invokevirtual 80, 3) := by decide +kernel
theorem d_M_piles_84 : decode b_M_piles 84 = .ok (.return_, 1) := by decide +kernel
theorem d_M_takes_0 : decode b_M_takes 0 = .ok (.aload_n 0, 1) := by decide +kernel
theorem d_M_takes_1 : decode b_M_takes 1 = .ok (.getfield 32, 3) := by decide +kernel
theorem d_M_takes_4 : decode b_M_takes 4 = .ok (.iconst 4, 1) := by decide +kernel
theorem d_M_takes_5 : decode b_M_takes 5 = .ok (.iload_n 1, 1) := by decide +kernel
theorem d_M_takes_6 : decode b_M_takes 6 = .ok (.imul, 1) := by decide +kernel
theorem d_M_takes_7 : decode b_M_takes 7 = .ok (.iload_n 2, 1) := by decide +kernel
theorem d_M_takes_8 : decode b_M_takes 8 = .ok (.iadd, 1) := by decide +kernel
theorem d_M_takes_9 : decode b_M_takes 9 = .ok (.iaload, 1) := by decide +kernel
theorem d_M_takes_10 : decode b_M_takes 10 = .ok (.istore 4, 2) := by decide +kernel
theorem d_M_takes_12 : decode b_M_takes 12 = .ok (.iload 4, 2) := by decide +kernel
theorem d_M_takes_14 : decode b_M_takes 14 = .ok (.aload_n 0, 1) := by decide +kernel
theorem d_M_takes_15 : decode b_M_takes 15 = .ok (.getfield 13, 3) := by decide +kernel
theorem d_M_takes_18 : decode b_M_takes 18 = .ok (.if_icmp .ge 35, 3) := by decide +kernel
theorem d_M_takes_21 : decode b_M_takes 21 = .ok (.iload 4, 2) := by decide +kernel
theorem d_M_takes_23 : decode b_M_takes 23 = .ok (.ifCond .eq 26, 3) := by decide +kernel
theorem d_M_takes_26 : decode b_M_takes 26 = .ok (.aload_n 0, 1) := by decide +kernel
theorem d_M_takes_27 : decode b_M_takes 27 = .ok (.getfield 20, 3) := by decide +kernel
theorem d_M_takes_30 : decode b_M_takes 30 = .ok (.aload_n 0, 1) := by decide +kernel
theorem d_M_takes_31 : decode b_M_takes 31 = .ok (.getfield 29, 3) := by decide +kernel
theorem d_M_takes_34 : decode b_M_takes 34 = .ok (.iload_n 1, 1) := by decide +kernel
theorem d_M_takes_35 : decode b_M_takes 35 = .ok (.iload_n 2, 1) := by decide +kernel
theorem d_M_takes_36 : decode b_M_takes 36 = .ok (.iload 4, 2) := by decide +kernel
theorem d_M_takes_38 : decode b_M_takes 38 = .ok (.iconst 1, 1) := by decide +kernel
theorem d_M_takes_39 : decode b_M_takes 39 = .ok (.isub, 1) := by decide +kernel
theorem d_M_takes_40 : decode b_M_takes 40 = .ok (.invokestatic 83, 3) := by decide +kernel
theorem d_M_takes_43 : decode b_M_takes 43 = .ok (.iaload, 1) := by decide +kernel
theorem d_M_takes_44 : decode b_M_takes 44 = .ok (.iaload, 1) := by decide +kernel
theorem d_M_takes_45 : decode b_M_takes 45 = .ok (.iload_n 3, 1) := by decide +kernel
theorem d_M_takes_46 : decode b_M_takes 46 = .ok (.if_icmp .lt 7, 3) := by decide +kernel
theorem d_M_takes_49 : decode b_M_takes 49 = .ok (.iconst 1, 1) := by decide +kernel
theorem d_M_takes_50 : decode b_M_takes 50 = .ok (.goto 4, 3) := by decide +kernel
theorem d_M_takes_53 : decode b_M_takes 53 = .ok (.iconst 0, 1) := by decide +kernel
theorem d_M_takes_54 : decode b_M_takes 54 = .ok (.ireturn, 1) := by decide +kernel
theorem d_M_put_0 : decode b_M_put 0 = .ok (.iload_n 1, 1) := by decide +kernel
theorem d_M_put_1 : decode b_M_put 1 = .ok (.iconst 0, 1) := by decide +kernel
theorem d_M_put_2 : decode b_M_put 2 = .ok (.aload_n 0, 1) := by decide +kernel
theorem d_M_put_3 : decode b_M_put 3 = .ok (.getfield 7, 3) := by decide +kernel
theorem d_M_put_6 : decode b_M_put 6 = .ok (.iconst 1, 1) := by decide +kernel
theorem d_M_put_7 : decode b_M_put 7 = .ok (.isub, 1) := by decide +kernel
theorem d_M_put_8 : decode b_M_put 8 = .ok (.invokestatic 62, 3) := by decide +kernel
theorem d_M_put_11 : decode b_M_put 11 = .ok (.istore 4, 2) := by decide +kernel
theorem d_M_put_13 : decode b_M_put 13 = .ok (.aload_n 0, 1) := by decide +kernel
theorem d_M_put_14 : decode b_M_put 14 = .ok (.iload 4, 2) := by decide +kernel
theorem d_M_put_16 : decode b_M_put 16 = .ok (.iload_n 2, 1) := by decide +kernel
theorem d_M_put_17 : decode b_M_put 17 = .ok (.iconst 1, 1) := by decide +kernel
theorem d_M_put_18 : decode b_M_put 18 = .ok (.sipush 1000, 3) := by decide +kernel
theorem d_M_put_21 : decode b_M_put 21 = .ok (.invokestatic 62, 3) := by decide +kernel
theorem d_M_put_24 : decode b_M_put 24 = .ok (.ifCond .eq 17, 3) := by decide +kernel
theorem d_M_put_27 : decode b_M_put 27 = .ok (.iload_n 3, 1) := by decide +kernel
theorem d_M_put_28 : decode b_M_put 28 = .ok (.iconst 1, 1) := by decide +kernel
theorem d_M_put_29 : decode b_M_put 29 = .ok (.bipush 100, 2) := by decide +kernel
theorem d_M_put_31 : decode b_M_put 31 = .ok (.invokestatic 62, 3) := by decide +kernel
theorem d_M_put_34 : decode b_M_put 34 = .ok (.ifCond .eq 7, 3) := by decide +kernel
theorem d_M_put_37 : decode b_M_put 37 = .ok (.iconst 1, 1) := by decide +kernel
theorem d_M_put_38 : decode b_M_put 38 = .ok (.goto 4, 3) := by decide +kernel
theorem d_M_put_41 : decode b_M_put 41 = .ok (.iconst 0, 1) := by decide +kernel
theorem d_M_put_42 : decode b_M_put 42 = .ok (.iload 4, 2) := by decide +kernel
theorem d_M_put_44 : decode b_M_put 44 = .ok (.ifCond .eq 26, 3) := by decide +kernel
theorem d_M_put_47 : decode b_M_put 47 = .ok (.aload_n 0, 1) := by decide +kernel
theorem d_M_put_48 : decode b_M_put 48 = .ok (.getfield 59, 3) := by decide +kernel
theorem d_M_put_51 : decode b_M_put 51 = .ok (.bipush 10, 2) := by decide +kernel
theorem d_M_put_53 : decode b_M_put 53 = .ok (.if_icmp .ge 17, 3) := by decide +kernel
theorem d_M_put_56 : decode b_M_put 56 = .ok (.aload_n 0, 1) := by decide +kernel
theorem d_M_put_57 : decode b_M_put 57 = .ok (.iconst 0, 1) := by decide +kernel
theorem d_M_put_58 : decode b_M_put 58 = .ok (.iload_n 1, 1) := by decide +kernel
theorem d_M_put_59 : decode b_M_put 59 = .ok (.iload_n 3, 1) := by decide +kernel
theorem d_M_put_60 : decode b_M_put 60 = .ok (.invokevirtual 87, 3) := by decide +kernel
theorem d_M_put_63 : decode b_M_put 63 = .ok (.ifCond .eq 7, 3) := by decide +kernel
theorem d_M_put_66 : decode b_M_put 66 = .ok (.iconst 1, 1) := by decide +kernel
theorem d_M_put_67 : decode b_M_put 67 = .ok (.goto 4, 3) := by decide +kernel
theorem d_M_put_70 : decode b_M_put 70 = .ok (.iconst 0, 1) := by decide +kernel
theorem d_M_put_71 : decode b_M_put 71 = .ok (.invokevirtual 73, 3) := by decide +kernel
theorem d_M_put_74 : decode b_M_put 74 = .ok (.ifCond .ne 5, 3) := by decide +kernel
theorem d_M_put_77 : decode b_M_put 77 = .ok (.iconst 0, 1) := by decide +kernel
theorem d_M_put_78 : decode b_M_put 78 = .ok (.ireturn, 1) := by decide +kernel
theorem d_M_put_79 : decode b_M_put 79 = .ok (.aload_n 0, 1) := by decide +kernel
theorem d_M_put_80 : decode b_M_put 80 = .ok (.getfield 16, 3) := by decide +kernel
theorem d_M_put_83 : decode b_M_put 83 = .ok (.aload_n 0, 1) := by decide +kernel
theorem d_M_put_84 : decode b_M_put 84 = .ok (.getfield 59, 3) := by decide +kernel
theorem d_M_put_87 : decode b_M_put 87 = .ok (.iload_n 2, 1) := by decide +kernel
theorem d_M_put_88 : decode b_M_put 88 = .ok (.iastore, 1) := by decide +kernel
theorem d_M_put_89 : decode b_M_put 89 = .ok (.aload_n 0, 1) := by decide +kernel
theorem d_M_put_90 : decode b_M_put 90 = .ok (.getfield 20, 3) := by decide +kernel
theorem d_M_put_93 : decode b_M_put 93 = .ok (.aload_n 0, 1) := by decide +kernel
theorem d_M_put_94 : decode b_M_put 94 = .ok (.getfield 59, 3) := by decide +kernel
theorem d_M_put_97 : decode b_M_put 97 = .ok (.iload_n 3, 1) := by decide +kernel
theorem d_M_put_98 : decode b_M_put 98 = .ok (.iastore, 1) := by decide +kernel
theorem d_M_put_99 : decode b_M_put 99 = .ok (.aload_n 0, 1) := by decide +kernel
theorem d_M_put_100 : decode b_M_put 100 = .ok (.getfield 23, 3) := by decide +kernel
theorem d_M_put_103 : decode b_M_put 103 = .ok (.aload_n 0, 1) := by decide +kernel
theorem d_M_put_104 : decode b_M_put 104 = .ok (.getfield 59, 3) := by decide +kernel
theorem d_M_put_107 : decode b_M_put 107 = .ok (.iconst (-1), 1) := by decide +kernel
theorem d_M_put_108 : decode b_M_put 108 = .ok (.iastore, 1) := by decide +kernel
theorem d_M_put_109 : decode b_M_put 109 = .ok (.aload_n 0, 1) := by decide +kernel
theorem d_M_put_110 : decode b_M_put 110 = .ok (.getfield 26, 3) := by decide +kernel
theorem d_M_put_113 : decode b_M_put 113 = .ok (.aload_n 0, 1) := by decide +kernel
theorem d_M_put_114 : decode b_M_put 114 = .ok (.getfield 59, 3) := by decide +kernel
theorem d_M_put_117 : decode b_M_put 117 = .ok (.iconst (-1), 1) := by decide +kernel
theorem d_M_put_118 : decode b_M_put 118 = .ok (.iastore, 1) := by decide +kernel
theorem d_M_put_119 : decode b_M_put 119 = .ok (.aload_n 0, 1) := by decide +kernel
theorem d_M_put_120 : decode b_M_put 120 = .ok (.getfield 29, 3) := by decide +kernel
theorem d_M_put_123 : decode b_M_put 123 = .ok (.iconst 0, 1) := by decide +kernel
theorem d_M_put_124 : decode b_M_put 124 = .ok (.iload_n 1, 1) := by decide +kernel
theorem d_M_put_125 : decode b_M_put 125 = .ok (.aload_n 0, 1) := by decide +kernel
theorem d_M_put_126 : decode b_M_put 126 = .ok (.getfield 32, 3) := by decide +kernel
theorem d_M_put_129 : decode b_M_put 129 = .ok (.iload_n 1, 1) := by decide +kernel
theorem d_M_put_130 : decode b_M_put 130 = .ok (.iaload, 1) := by decide +kernel
theorem d_M_put_131 : decode b_M_put 131 = .ok (.invokestatic 83, 3) := by decide +kernel
theorem d_M_put_134 : decode b_M_put 134 = .ok (.aload_n 0, 1) := by decide +kernel
theorem d_M_put_135 : decode b_M_put 135 = .ok (.getfield 59, 3) := by decide +kernel
theorem d_M_put_138 : decode b_M_put 138 = .ok (.iastore, 1) := by decide +kernel
theorem d_M_put_139 : decode b_M_put 139 = .ok (.aload_n 0, 1) := by decide +kernel
theorem d_M_put_140 : decode b_M_put 140 = .ok (.getfield 32, 3) := by decide +kernel
theorem d_M_put_143 : decode b_M_put 143 = .ok (.iload_n 1, 1) := by decide +kernel
theorem d_M_put_144 : decode b_M_put 144 = .ok (.dup2, 1) := by decide +kernel
theorem d_M_put_145 : decode b_M_put 145 = .ok (.iaload, 1) := by decide +kernel
theorem d_M_put_146 : decode b_M_put 146 = .ok (.iconst 1, 1) := by decide +kernel
theorem d_M_put_147 : decode b_M_put 147 = .ok (.iadd, 1) := by decide +kernel
theorem d_M_put_148 : decode b_M_put 148 = .ok (.iastore, 1) := by decide +kernel
theorem d_M_put_149 : decode b_M_put 149 = .ok (.aload_n 0, 1) := by decide +kernel
theorem d_M_put_150 : decode b_M_put 150 = .ok (.dup, 1) := by decide +kernel
theorem d_M_put_151 : decode b_M_put 151 = .ok (.getfield 59, 3) := by decide +kernel
theorem d_M_put_154 : decode b_M_put 154 = .ok (.iconst 1, 1) := by decide +kernel
theorem d_M_put_155 : decode b_M_put 155 = .ok (.iadd, 1) := by decide +kernel
theorem d_M_put_156 : decode b_M_put 156 = .ok (.putfield 59, 3) := by decide +kernel
theorem d_M_put_159 : decode b_M_put 159 = .ok (.aload_n 0, 1) := by decide +kernel
theorem d_M_put_160 : decode b_M_put 160 = .ok (.invokevirtual 80, 3) := by decide +kernel
theorem d_M_put_163 : decode b_M_put 163 = .ok (.aload_n 0, 1) := by decide +kernel
theorem d_M_put_164 : decode b_M_put 164 = .ok (.getfield 59, 3) := by decide +kernel
theorem d_M_put_167 : decode b_M_put 167 = .ok (.iconst 1, 1) := by decide +kernel
theorem d_M_put_168 : decode b_M_put 168 = .ok (.isub, 1) := by decide +kernel
theorem d_M_put_169 : decode b_M_put 169 = .ok (.ireturn, 1) := by decide +kernel
theorem d_M_isGone_0 : decode b_M_isGone 0 = .ok (.aload_n 0, 1) := by decide +kernel
theorem d_M_isGone_1 : decode b_M_isGone 1 = .ok (.getfield 35, 3) := by decide +kernel
theorem d_M_isGone_4 : decode b_M_isGone 4 = .ok (.iload_n 1, 1) := by decide +kernel
theorem d_M_isGone_5 : decode b_M_isGone 5 = .ok (.iaload, 1) := by decide +kernel
theorem d_M_isGone_6 : decode b_M_isGone 6 = .ok (.iload_n 2, 1) := by decide +kernel
theorem d_M_isGone_7 : decode b_M_isGone 7 = .ok (.ishr, 1) := by decide +kernel
theorem d_M_isGone_8 : decode b_M_isGone 8 = .ok (.iconst 1, 1) := by decide +kernel
theorem d_M_isGone_9 : decode b_M_isGone 9 = .ok (.iand, 1) := by decide +kernel
theorem d_M_isGone_10 : decode b_M_isGone 10 = .ok (.iconst 1, 1) := by decide +kernel
theorem d_M_isGone_11 : decode b_M_isGone 11 = .ok (.if_icmp .ne 7, 3) := by decide +kernel
theorem d_M_isGone_14 : decode b_M_isGone 14 = .ok (.iconst 1, 1) := by decide +kernel
theorem d_M_isGone_15 : decode b_M_isGone 15 = .ok (.goto 4, 3) := by decide +kernel
theorem d_M_isGone_18 : decode b_M_isGone 18 = .ok (.iconst 0, 1) := by decide +kernel
theorem d_M_isGone_19 : decode b_M_isGone 19 = .ok (.ireturn, 1) := by decide +kernel
theorem d_M_want_0 : decode b_M_want 0 = .ok (.aload_n 0, 1) := by decide +kernel
theorem d_M_want_1 : decode b_M_want 1 = .ok (.aload_n 0, 1) := by decide +kernel
theorem d_M_want_2 : decode b_M_want 2 = .ok (.iload_n 1, 1) := by decide +kernel
theorem d_M_want_3 : decode b_M_want 3 = .ok (.invokevirtual 90, 3) := by decide +kernel
theorem d_M_want_6 : decode b_M_want 6 = .ok (.aload_n 0, 1) := by decide +kernel
theorem d_M_want_7 : decode b_M_want 7 = .ok (.iload_n 1, 1) := by decide +kernel
theorem d_M_want_8 : decode b_M_want 8 = .ok (.invokevirtual 90, 3) := by decide +kernel
theorem d_M_want_11 : decode b_M_want 11 = .ok (.ifCond .eq 16, 3) := by decide +kernel
theorem d_M_want_14 : decode b_M_want 14 = .ok (.aload_n 0, 1) := by decide +kernel
theorem d_M_want_15 : decode b_M_want 15 = .ok (.iconst 0, 1) := by decide +kernel
theorem d_M_want_16 : decode b_M_want 16 = .ok (.iload_n 1, 1) := by decide +kernel
theorem d_M_want_17 : decode b_M_want 17 = .ok (.invokevirtual 94, 3) := by decide +kernel
theorem d_M_want_20 : decode b_M_want 20 = .ok (.ifCond .ne 7, 3) := by decide +kernel
theorem d_M_want_23 : decode b_M_want 23 = .ok (.iconst 1, 1) := by decide +kernel
theorem d_M_want_24 : decode b_M_want 24 = .ok (.goto 4, 3) := by decide +kernel
theorem d_M_want_27 : decode b_M_want 27 = .ok (.iconst 0, 1) := by decide +kernel
theorem d_M_want_28 : decode b_M_want 28 = .ok (.iload_n 2, 1) := by decide +kernel
theorem d_M_want_29 : decode b_M_want 29 = .ok (.iconst (-1), 1) := by decide +kernel
theorem d_M_want_30 : decode b_M_want 30 = .ok (.bipush 99, 2) := by decide +kernel
theorem d_M_want_32 : decode b_M_want 32 = .ok (.invokestatic 62, 3) := by decide +kernel
theorem d_M_want_35 : decode b_M_want 35 = .ok (.invokevirtual 73, 3) := by decide +kernel
theorem d_M_want_38 : decode b_M_want 38 = .ok (.ifCond .ne 4, 3) := by decide +kernel
theorem d_M_want_41 : decode b_M_want 41 = .ok (.return_, 1) := by decide +kernel
theorem d_M_want_42 : decode b_M_want 42 = .ok (.aload_n 0, 1) := by decide +kernel
theorem d_M_want_43 : decode b_M_want 43 = .ok (.getfield 23, 3) := by decide +kernel
theorem d_M_want_46 : decode b_M_want 46 = .ok (.iload_n 1, 1) := by decide +kernel
theorem d_M_want_47 : decode b_M_want 47 = .ok (.iload_n 2, 1) := by decide +kernel
theorem d_M_want_48 : decode b_M_want 48 = .ok (.iastore, 1) := by decide +kernel
theorem d_M_want_49 : decode b_M_want 49 = .ok (.aload_n 0, 1) := by decide +kernel
theorem d_M_want_50 : decode b_M_want 50 = .ok (.invokevirtual 80, 3) := by decide +kernel
theorem d_M_want_53 : decode b_M_want 53 = .ok (.return_, 1) := by decide +kernel
theorem d_M_may_0 : decode b_M_may 0 = .ok (.aload_n 0, 1) := by decide +kernel
theorem d_M_may_1 : decode b_M_may 1 = .ok (.aload_n 0, 1) := by decide +kernel
theorem d_M_may_2 : decode b_M_may 2 = .ok (.iload_n 1, 1) := by decide +kernel
theorem d_M_may_3 : decode b_M_may 3 = .ok (.invokevirtual 90, 3) := by decide +kernel
theorem d_M_may_6 : decode b_M_may 6 = .ok (.ifCond .eq 15, 3) := by decide +kernel
theorem d_M_may_9 : decode b_M_may 9 = .ok (.aload_n 0, 1) := by decide +kernel
theorem d_M_may_10 : decode b_M_may 10 = .ok (.iload_n 2, 1) := by decide +kernel
theorem d_M_may_11 : decode b_M_may 11 = .ok (.invokevirtual 90, 3) := by decide +kernel
theorem d_M_may_14 : decode b_M_may 14 = .ok (.ifCond .eq 7, 3) := by decide +kernel
theorem d_M_may_17 : decode b_M_may 17 = .ok (.iconst 1, 1) := by decide +kernel
theorem d_M_may_18 : decode b_M_may 18 = .ok (.goto 4, 3) := by decide +kernel
theorem d_M_may_21 : decode b_M_may 21 = .ok (.iconst 0, 1) := by decide +kernel
theorem d_M_may_22 : decode b_M_may 22 = .ok (.iconst 1, 1) := by decide +kernel
theorem d_M_may_23 : decode b_M_may 23 = .ok (.iconst 1, 1) := by decide +kernel
theorem d_M_may_24 : decode b_M_may 24 = .ok (.invokevirtual 73, 3) := by decide +kernel
theorem d_M_may_27 : decode b_M_may 27 = .ok (.ifCond .eq 22, 3) := by decide +kernel
theorem d_M_may_30 : decode b_M_may 30 = .ok (.aload_n 0, 1) := by decide +kernel
theorem d_M_may_31 : decode b_M_may 31 = .ok (.getfield 20, 3) := by decide +kernel
theorem d_M_may_34 : decode b_M_may 34 = .ok (.iload_n 1, 1) := by decide +kernel
theorem d_M_may_35 : decode b_M_may 35 = .ok (.iaload, 1) := by decide +kernel
theorem d_M_may_36 : decode b_M_may 36 = .ok (.aload_n 0, 1) := by decide +kernel
theorem d_M_may_37 : decode b_M_may 37 = .ok (.getfield 20, 3) := by decide +kernel
theorem d_M_may_40 : decode b_M_may 40 = .ok (.iload_n 2, 1) := by decide +kernel
theorem d_M_may_41 : decode b_M_may 41 = .ok (.iaload, 1) := by decide +kernel
theorem d_M_may_42 : decode b_M_may 42 = .ok (.if_icmp .lt 7, 3) := by decide +kernel
theorem d_M_may_45 : decode b_M_may 45 = .ok (.iconst 1, 1) := by decide +kernel
theorem d_M_may_46 : decode b_M_may 46 = .ok (.goto 4, 3) := by decide +kernel
theorem d_M_may_49 : decode b_M_may 49 = .ok (.iconst 0, 1) := by decide +kernel
theorem d_M_may_50 : decode b_M_may 50 = .ok (.ireturn, 1) := by decide +kernel
theorem d_M_isAhead_0 : decode b_M_isAhead 0 = .ok (.aload_n 0, 1) := by decide +kernel
theorem d_M_isAhead_1 : decode b_M_isAhead 1 = .ok (.getfield 23, 3) := by decide +kernel
theorem d_M_isAhead_4 : decode b_M_isAhead 4 = .ok (.iload_n 1, 1) := by decide +kernel
theorem d_M_isAhead_5 : decode b_M_isAhead 5 = .ok (.iaload, 1) := by decide +kernel
theorem d_M_isAhead_6 : decode b_M_isAhead 6 = .ok (.ifCond .ge 5, 3) := by decide +kernel
theorem d_M_isAhead_9 : decode b_M_isAhead 9 = .ok (.iconst 0, 1) := by decide +kernel
theorem d_M_isAhead_10 : decode b_M_isAhead 10 = .ok (.ireturn, 1) := by decide +kernel
theorem d_M_isAhead_11 : decode b_M_isAhead 11 = .ok (.aload_n 0, 1) := by decide +kernel
theorem d_M_isAhead_12 : decode b_M_isAhead 12 = .ok (.getfield 23, 3) := by decide +kernel
theorem d_M_isAhead_15 : decode b_M_isAhead 15 = .ok (.iload_n 2, 1) := by decide +kernel
theorem d_M_isAhead_16 : decode b_M_isAhead 16 = .ok (.iaload, 1) := by decide +kernel
theorem d_M_isAhead_17 : decode b_M_isAhead 17 = .ok (.ifCond .lt 38, 3) := by decide +kernel
theorem d_M_isAhead_20 : decode b_M_isAhead 20 = .ok (.aload_n 0, 1) := by decide +kernel
theorem d_M_isAhead_21 : decode b_M_isAhead 21 = .ok (.getfield 23, 3) := by decide +kernel
theorem d_M_isAhead_24 : decode b_M_isAhead 24 = .ok (.iload_n 1, 1) := by decide +kernel
theorem d_M_isAhead_25 : decode b_M_isAhead 25 = .ok (.iaload, 1) := by decide +kernel
theorem d_M_isAhead_26 : decode b_M_isAhead 26 = .ok (.aload_n 0, 1) := by decide +kernel
theorem d_M_isAhead_27 : decode b_M_isAhead 27 = .ok (.getfield 23, 3) := by decide +kernel
theorem d_M_isAhead_30 : decode b_M_isAhead 30 = .ok (.iload_n 2, 1) := by decide +kernel
theorem d_M_isAhead_31 : decode b_M_isAhead 31 = .ok (.iaload, 1) := by decide +kernel
theorem d_M_isAhead_32 : decode b_M_isAhead 32 = .ok (.if_icmp .lt 23, 3) := by decide +kernel
theorem d_M_isAhead_35 : decode b_M_isAhead 35 = .ok (.aload_n 0, 1) := by decide +kernel
theorem d_M_isAhead_36 : decode b_M_isAhead 36 = .ok (.getfield 23, 3) := by decide +kernel
theorem d_M_isAhead_39 : decode b_M_isAhead 39 = .ok (.iload_n 1, 1) := by decide +kernel
theorem d_M_isAhead_40 : decode b_M_isAhead 40 = .ok (.iaload, 1) := by decide +kernel
theorem d_M_isAhead_41 : decode b_M_isAhead 41 = .ok (.aload_n 0, 1) := by decide +kernel
theorem d_M_isAhead_42 : decode b_M_isAhead 42 = .ok (.getfield 23, 3) := by decide +kernel
theorem d_M_isAhead_45 : decode b_M_isAhead 45 = .ok (.iload_n 2, 1) := by decide +kernel
theorem d_M_isAhead_46 : decode b_M_isAhead 46 = .ok (.iaload, 1) := by decide +kernel
theorem d_M_isAhead_47 : decode b_M_isAhead 47 = .ok (.if_icmp .ne 12, 3) := by decide +kernel
theorem d_M_isAhead_50 : decode b_M_isAhead 50 = .ok (.iload_n 1, 1) := by decide +kernel
theorem d_M_isAhead_51 : decode b_M_isAhead 51 = .ok (.iload_n 2, 1) := by decide +kernel
theorem d_M_isAhead_52 : decode b_M_isAhead 52 = .ok (.if_icmp .ge 7, 3) := by decide +kernel
theorem d_M_isAhead_55 : decode b_M_isAhead 55 = .ok (.iconst 1, 1) := by decide +kernel
theorem d_M_isAhead_56 : decode b_M_isAhead 56 = .ok (.goto 4, 3) := by decide +kernel
theorem d_M_isAhead_59 : decode b_M_isAhead 59 = .ok (.iconst 0, 1) := by decide +kernel
theorem d_M_isAhead_60 : decode b_M_isAhead 60 = .ok (.ireturn, 1) := by decide +kernel
theorem d_M_blocksOn_0 : decode b_M_blocksOn 0 = .ok (.iconst 0, 1) := by decide +kernel
theorem d_M_blocksOn_1 : decode b_M_blocksOn 1 = .ok (.istore 5, 2) := by decide +kernel
theorem d_M_blocksOn_3 : decode b_M_blocksOn 3 = .ok (.iload 5, 2) := by decide +kernel
theorem d_M_blocksOn_5 : decode b_M_blocksOn 5 = .ok (.iload_n 3, 1) := by decide +kernel
theorem d_M_blocksOn_6 : decode b_M_blocksOn 6 = .ok (.if_icmp .ge 32, 3) := by decide +kernel
theorem d_M_blocksOn_9 : decode b_M_blocksOn 9 = .ok (.aload_n 0, 1) := by decide +kernel
theorem d_M_blocksOn_10 : decode b_M_blocksOn 10 = .ok (.aload_n 0, 1) := by decide +kernel
theorem d_M_blocksOn_11 : decode b_M_blocksOn 11 = .ok (.getfield 29, 3) := by decide +kernel
theorem d_M_blocksOn_14 : decode b_M_blocksOn 14 = .ok (.iload_n 1, 1) := by decide +kernel
theorem d_M_blocksOn_15 : decode b_M_blocksOn 15 = .ok (.iload_n 2, 1) := by decide +kernel
theorem d_M_blocksOn_16 : decode b_M_blocksOn 16 = .ok (.iload 5, 2) := by decide +kernel
theorem d_M_blocksOn_18 : decode b_M_blocksOn 18 = .ok (.invokestatic 83, 3) := by decide +kernel
theorem d_M_blocksOn_21 : decode b_M_blocksOn 21 = .ok (.iaload, 1) := by decide +kernel
theorem d_M_blocksOn_22 : decode b_M_blocksOn 22 = .ok (.iload 4, 2) := by decide +kernel
theorem d_M_blocksOn_24 : decode b_M_blocksOn 24 = .ok (.invokevirtual 98, 3) := by decide +kernel
theorem d_M_blocksOn_27 : decode b_M_blocksOn 27 = .ok (.ifCond .eq 5, 3) := by decide +kernel
theorem d_M_blocksOn_30 : decode b_M_blocksOn 30 = .ok (.iconst 1, 1) := by decide +kernel
theorem d_M_blocksOn_31 : decode b_M_blocksOn 31 = .ok (.ireturn, 1) := by decide +kernel
theorem d_M_blocksOn_32 : decode b_M_blocksOn 32 = .ok (.iinc 5 1, 3) := by decide +kernel
theorem d_M_blocksOn_35 : decode b_M_blocksOn 35 = .ok (.goto (-32), 3) := by decide +kernel
theorem d_M_blocksOn_38 : decode b_M_blocksOn 38 = .ok (.iconst 0, 1) := by decide +kernel
theorem d_M_blocksOn_39 : decode b_M_blocksOn 39 = .ok (.ireturn, 1) := by decide +kernel
theorem d_M_boundAt_0 : decode b_M_boundAt 0 = .ok (.iconst 0, 1) := by decide +kernel
theorem d_M_boundAt_1 : decode b_M_boundAt 1 = .ok (.istore_n 2, 1) := by decide +kernel
theorem d_M_boundAt_2 : decode b_M_boundAt 2 = .ok (.iconst 0, 1) := by decide +kernel
theorem d_M_boundAt_3 : decode b_M_boundAt 3 = .ok (.istore_n 3, 1) := by decide +kernel
theorem d_M_boundAt_4 : decode b_M_boundAt 4 = .ok (.iload_n 3, 1) := by decide +kernel
theorem d_M_boundAt_5 : decode b_M_boundAt 5 = .ok (.aload_n 0, 1) := by decide +kernel
theorem d_M_boundAt_6 : decode b_M_boundAt 6 = .ok (.getfield 7, 3) := by decide +kernel
theorem d_M_boundAt_9 : decode b_M_boundAt 9 = .ok (.if_icmp .ge 59, 3) := by decide +kernel
theorem d_M_boundAt_12 : decode b_M_boundAt 12 = .ok (.iconst 0, 1) := by decide +kernel
theorem d_M_boundAt_13 : decode b_M_boundAt 13 = .ok (.istore 4, 2) := by decide +kernel
theorem d_M_boundAt_15 : decode b_M_boundAt 15 = .ok (.iload 4, 2) := by decide +kernel
theorem d_M_boundAt_17 : decode b_M_boundAt 17 = .ok (.aload_n 0, 1) := by decide +kernel
theorem d_M_boundAt_18 : decode b_M_boundAt 18 = .ok (.getfield 32, 3) := by decide +kernel
theorem d_M_boundAt_21 : decode b_M_boundAt 21 = .ok (.iconst 4, 1) := by decide +kernel
theorem d_M_boundAt_22 : decode b_M_boundAt 22 = .ok (.iload_n 1, 1) := by decide +kernel
theorem d_M_boundAt_23 : decode b_M_boundAt 23 = .ok (.imul, 1) := by decide +kernel
theorem d_M_boundAt_24 : decode b_M_boundAt 24 = .ok (.iload_n 3, 1) := by decide +kernel
theorem d_M_boundAt_25 : decode b_M_boundAt 25 = .ok (.iadd, 1) := by decide +kernel
theorem d_M_boundAt_26 : decode b_M_boundAt 26 = .ok (.iaload, 1) := by decide +kernel
theorem d_M_boundAt_27 : decode b_M_boundAt 27 = .ok (.if_icmp .ge 35, 3) := by decide +kernel
theorem d_M_boundAt_30 : decode b_M_boundAt 30 = .ok (.aload_n 0, 1) := by decide +kernel
theorem d_M_boundAt_31 : decode b_M_boundAt 31 = .ok (.iload_n 1, 1) := by decide +kernel
theorem d_M_boundAt_32 : decode b_M_boundAt 32 = .ok (.iload_n 3, 1) := by decide +kernel
theorem d_M_boundAt_33 : decode b_M_boundAt 33 = .ok (.iload 4, 2) := by decide +kernel
theorem d_M_boundAt_35 : decode b_M_boundAt 35 = .ok (.aload_n 0, 1) := by decide +kernel
theorem d_M_boundAt_36 : decode b_M_boundAt 36 = .ok (.getfield 29, 3) := by decide +kernel
theorem d_M_boundAt_39 : decode b_M_boundAt 39 = .ok (.iload_n 1, 1) := by decide +kernel
theorem d_M_boundAt_40 : decode b_M_boundAt 40 = .ok (.iload_n 3, 1) := by decide +kernel
theorem d_M_boundAt_41 : decode b_M_boundAt 41 = .ok (.iload 4, 2) := by decide +kernel
theorem d_M_boundAt_43 : decode b_M_boundAt 43 = .ok (.invokestatic 83, 3) := by decide +kernel
theorem d_M_boundAt_46 : decode b_M_boundAt 46 = .ok (.iaload, 1) := by decide +kernel
theorem d_M_boundAt_47 : decode b_M_boundAt 47 = .ok (.invokevirtual 101, 3) := by decide +kernel
theorem d_M_boundAt_50 : decode b_M_boundAt 50 = .ok (.ifCond .eq 6, 3) := by decide +kernel
theorem d_M_boundAt_53 : decode b_M_boundAt 53 = .ok (.iinc 2 1, 3) := by decide +kernel
theorem d_M_boundAt_56 : decode b_M_boundAt 56 = .ok (.iinc 4 1, 3) := by decide +kernel
theorem d_M_boundAt_59 : decode b_M_boundAt 59 = .ok (.goto (-44), 3) := by decide +kernel
theorem d_M_boundAt_62 : decode b_M_boundAt 62 = .ok (.iinc 3 1, 3) := by decide +kernel
theorem d_M_boundAt_65 : decode b_M_boundAt 65 = .ok (.goto (-61), 3) := by decide +kernel
theorem d_M_boundAt_68 : decode b_M_boundAt 68 = .ok (.iload_n 2, 1) := by decide +kernel
theorem d_M_boundAt_69 : decode b_M_boundAt 69 = .ok (.ireturn, 1) := by decide +kernel
theorem d_M_bound_0 : decode b_M_bound 0 = .ok (.aload_n 0, 1) := by decide +kernel
theorem d_M_bound_1 : decode b_M_bound 1 = .ok (.iconst 0, 1) := by decide +kernel
theorem d_M_bound_2 : decode b_M_bound 2 = .ok (.putfield 56, 3) := by decide +kernel
theorem d_M_bound_5 : decode b_M_bound 5 = .ok (.aload_n 0, 1) := by decide +kernel
theorem d_M_bound_6 : decode b_M_bound 6 = .ok (.iconst 0, 1) := by decide +kernel
theorem d_M_bound_7 : decode b_M_bound 7 = .ok (.invokevirtual 105, 3) := by decide +kernel
theorem d_M_bound_10 : decode b_M_bound 10 = .ok (.ireturn, 1) := by decide +kernel
theorem d_M_copy_0 : decode b_M_copy 0 = .ok (.iconst 0, 1) := by decide +kernel
theorem d_M_copy_1 : decode b_M_copy 1 = .ok (.istore_n 3, 1) := by decide +kernel
theorem d_M_copy_2 : decode b_M_copy 2 = .ok (.iload_n 3, 1) := by decide +kernel
theorem d_M_copy_3 : decode b_M_copy 3 = .ok (.bipush 20, 2) := by decide +kernel
theorem d_M_copy_5 : decode b_M_copy 5 = .ok (.if_icmp .ge 31, 3) := by decide +kernel
theorem d_M_copy_8 : decode b_M_copy 8 = .ok (.aload_n 0, 1) := by decide +kernel
theorem d_M_copy_9 : decode b_M_copy 9 = .ok (.getfield 29, 3) := by decide +kernel
theorem d_M_copy_12 : decode b_M_copy 12 = .ok (.bipush 20, 2) := by decide +kernel
theorem d_M_copy_14 : decode b_M_copy 14 = .ok (.iload_n 2, 1) := by decide +kernel
theorem d_M_copy_15 : decode b_M_copy 15 = .ok (.imul, 1) := by decide +kernel
theorem d_M_copy_16 : decode b_M_copy 16 = .ok (.iload_n 3, 1) := by decide +kernel
theorem d_M_copy_17 : decode b_M_copy 17 = .ok (.iadd, 1) := by decide +kernel
theorem d_M_copy_18 : decode b_M_copy 18 = .ok (.aload_n 0, 1) := by decide +kernel
theorem d_M_copy_19 : decode b_M_copy 19 = .ok (.getfield 29, 3) := by decide +kernel
theorem d_M_copy_22 : decode b_M_copy 22 = .ok (.bipush 20, 2) := by decide +kernel
theorem d_M_copy_24 : decode b_M_copy 24 = .ok (.iload_n 1, 1) := by decide +kernel
theorem d_M_copy_25 : decode b_M_copy 25 = .ok (.imul, 1) := by decide +kernel
theorem d_M_copy_26 : decode b_M_copy 26 = .ok (.iload_n 3, 1) := by decide +kernel
theorem d_M_copy_27 : decode b_M_copy 27 = .ok (.iadd, 1) := by decide +kernel
theorem d_M_copy_28 : decode b_M_copy 28 = .ok (.iaload, 1) := by decide +kernel
theorem d_M_copy_29 : decode b_M_copy 29 = .ok (.iastore, 1) := by decide +kernel
theorem d_M_copy_30 : decode b_M_copy 30 = .ok (.iinc 3 1, 3) := by decide +kernel
theorem d_M_copy_33 : decode b_M_copy 33 = .ok (.goto (-31), 3) := by decide +kernel
theorem d_M_copy_36 : decode b_M_copy 36 = .ok (.iconst 0, 1) := by decide +kernel
theorem d_M_copy_37 : decode b_M_copy 37 = .ok (.istore_n 3, 1) := by decide +kernel
theorem d_M_copy_38 : decode b_M_copy 38 = .ok (.iload_n 3, 1) := by decide +kernel
theorem d_M_copy_39 : decode b_M_copy 39 = .ok (.iconst 4, 1) := by decide +kernel
theorem d_M_copy_40 : decode b_M_copy 40 = .ok (.if_icmp .ge 29, 3) := by decide +kernel
theorem d_M_copy_43 : decode b_M_copy 43 = .ok (.aload_n 0, 1) := by decide +kernel
theorem d_M_copy_44 : decode b_M_copy 44 = .ok (.getfield 32, 3) := by decide +kernel
theorem d_M_copy_47 : decode b_M_copy 47 = .ok (.iconst 4, 1) := by decide +kernel
theorem d_M_copy_48 : decode b_M_copy 48 = .ok (.iload_n 2, 1) := by decide +kernel
theorem d_M_copy_49 : decode b_M_copy 49 = .ok (.imul, 1) := by decide +kernel
theorem d_M_copy_50 : decode b_M_copy 50 = .ok (.iload_n 3, 1) := by decide +kernel
theorem d_M_copy_51 : decode b_M_copy 51 = .ok (.iadd, 1) := by decide +kernel
theorem d_M_copy_52 : decode b_M_copy 52 = .ok (.aload_n 0, 1) := by decide +kernel
theorem d_M_copy_53 : decode b_M_copy 53 = .ok (.getfield 32, 3) := by decide +kernel
theorem d_M_copy_56 : decode b_M_copy 56 = .ok (.iconst 4, 1) := by decide +kernel
theorem d_M_copy_57 : decode b_M_copy 57 = .ok (.iload_n 1, 1) := by decide +kernel
theorem d_M_copy_58 : decode b_M_copy 58 = .ok (.imul, 1) := by decide +kernel
theorem d_M_copy_59 : decode b_M_copy 59 = .ok (.iload_n 3, 1) := by decide +kernel
theorem d_M_copy_60 : decode b_M_copy 60 = .ok (.iadd, 1) := by decide +kernel
theorem d_M_copy_61 : decode b_M_copy 61 = .ok (.iaload, 1) := by decide +kernel
theorem d_M_copy_62 : decode b_M_copy 62 = .ok (.iastore, 1) := by decide +kernel
theorem d_M_copy_63 : decode b_M_copy 63 = .ok (.iinc 3 1, 3) := by decide +kernel
theorem d_M_copy_66 : decode b_M_copy 66 = .ok (.goto (-28), 3) := by decide +kernel
theorem d_M_copy_69 : decode b_M_copy 69 = .ok (.aload_n 0, 1) := by decide +kernel
theorem d_M_copy_70 : decode b_M_copy 70 = .ok (.getfield 35, 3) := by decide +kernel
theorem d_M_copy_73 : decode b_M_copy 73 = .ok (.iload_n 2, 1) := by decide +kernel
theorem d_M_copy_74 : decode b_M_copy 74 = .ok (.aload_n 0, 1) := by decide +kernel
theorem d_M_copy_75 : decode b_M_copy 75 = .ok (.getfield 35, 3) := by decide +kernel
theorem d_M_copy_78 : decode b_M_copy 78 = .ok (.iload_n 1, 1) := by decide +kernel
theorem d_M_copy_79 : decode b_M_copy 79 = .ok (.iaload, 1) := by decide +kernel
theorem d_M_copy_80 : decode b_M_copy 80 = .ok (.iastore, 1) := by decide +kernel
theorem d_M_copy_81 : decode b_M_copy 81 = .ok (.aload_n 0, 1) := by decide +kernel
theorem d_M_copy_82 : decode b_M_copy 82 = .ok (.getfield 47, 3) := by decide +kernel
theorem d_M_copy_85 : decode b_M_copy 85 = .ok (.iload_n 2, 1) := by decide +kernel
theorem d_M_copy_86 : decode b_M_copy 86 = .ok (.aload_n 0, 1) := by decide +kernel
theorem d_M_copy_87 : decode b_M_copy 87 = .ok (.getfield 47, 3) := by decide +kernel
theorem d_M_copy_90 : decode b_M_copy 90 = .ok (.iload_n 1, 1) := by decide +kernel
theorem d_M_copy_91 : decode b_M_copy 91 = .ok (.iaload, 1) := by decide +kernel
theorem d_M_copy_92 : decode b_M_copy 92 = .ok (.iastore, 1) := by decide +kernel
theorem d_M_copy_93 : decode b_M_copy 93 = .ok (.return_, 1) := by decide +kernel
theorem d_M_says_0 : decode b_M_says 0 = .ok (.aload_n 0, 1) := by decide +kernel
theorem d_M_says_1 : decode b_M_says 1 = .ok (.getfield 41, 3) := by decide +kernel
theorem d_M_says_4 : decode b_M_says 4 = .ok (.aload_n 0, 1) := by decide +kernel
theorem d_M_says_5 : decode b_M_says 5 = .ok (.getfield 47, 3) := by decide +kernel
theorem d_M_says_8 : decode b_M_says 8 = .ok (.iload_n 1, 1) := by decide +kernel
theorem d_M_says_9 : decode b_M_says 9 = .ok (.iaload, 1) := by decide +kernel
theorem d_M_says_10 : decode b_M_says 10 = .ok (.iload_n 2, 1) := by decide +kernel
theorem d_M_says_11 : decode b_M_says 11 = .ok (.iastore, 1) := by decide +kernel
theorem d_M_says_12 : decode b_M_says 12 = .ok (.aload_n 0, 1) := by decide +kernel
theorem d_M_says_13 : decode b_M_says 13 = .ok (.getfield 44, 3) := by decide +kernel
theorem d_M_says_16 : decode b_M_says 16 = .ok (.aload_n 0, 1) := by decide +kernel
theorem d_M_says_17 : decode b_M_says 17 = .ok (.getfield 47, 3) := by decide +kernel
theorem d_M_says_20 : decode b_M_says 20 = .ok (.iload_n 1, 1) := by decide +kernel
theorem d_M_says_21 : decode b_M_says 21 = .ok (.iaload, 1) := by decide +kernel
theorem d_M_says_22 : decode b_M_says 22 = .ok (.iload_n 3, 1) := by decide +kernel
theorem d_M_says_23 : decode b_M_says 23 = .ok (.iastore, 1) := by decide +kernel
theorem d_M_says_24 : decode b_M_says 24 = .ok (.aload_n 0, 1) := by decide +kernel
theorem d_M_says_25 : decode b_M_says 25 = .ok (.getfield 47, 3) := by decide +kernel
theorem d_M_says_28 : decode b_M_says 28 = .ok (.iload_n 1, 1) := by decide +kernel
theorem d_M_says_29 : decode b_M_says 29 = .ok (.dup2, 1) := by decide +kernel
