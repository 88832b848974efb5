theorem d_M_replay_59 : decode b_M_replay 59 = .ok (.ifCond .lt 18, 3) := by decide +kernel
theorem d_M_replay_62 : decode b_M_replay 62 = .ok (.aload_n 0, 1) := by decide +kernel
theorem d_M_replay_63 : decode b_M_replay 63 = .ok (.iconst 0, 1) := by decide +kernel
theorem d_M_replay_64 : decode b_M_replay 64 = .ok (.iload_n 3, 1) := by decide +kernel
theorem d_M_replay_65 : decode b_M_replay 65 = .ok (.aload_n 0, 1) := by decide +kernel
theorem d_M_replay_66 : decode b_M_replay 66 = .ok (.getfield 44, 3) := by decide +kernel
theorem d_M_replay_69 : decode b_M_replay 69 = .ok (.iload_n 2, 1) := by decide +kernel
theorem d_M_replay_70 : decode b_M_replay 70 = .ok (.iaload, 1) := by decide +kernel
theorem d_M_replay_71 : decode b_M_replay 71 = .ok (.invokevirtual 130, 3) := by decide +kernel
theorem d_M_replay_74 : decode b_M_replay 74 = .ok (.goto 34, 3) := by decide +kernel
theorem d_M_replay_77 : decode b_M_replay 77 = .ok (.aload_n 0, 1) := by decide +kernel
theorem d_M_replay_78 : decode b_M_replay 78 = .ok (.getfield 32, 3) := by decide +kernel
theorem d_M_replay_81 : decode b_M_replay 81 = .ok (.iload_n 3, 1) := by decide +kernel
theorem d_M_replay_82 : decode b_M_replay 82 = .ok (.dup2, 1) := by decide +kernel
theorem d_M_replay_83 : decode b_M_replay 83 = .ok (.iaload, 1) := by decide +kernel
theorem d_M_replay_84 : decode b_M_replay 84 = .ok (.iconst 1, 1) := by decide +kernel
theorem d_M_replay_85 : decode b_M_replay 85 = .ok (.isub, 1) := by decide +kernel
theorem d_M_replay_86 : decode b_M_replay 86 = .ok (.iastore, 1) := by decide +kernel
theorem d_M_replay_87 : decode b_M_replay 87 = .ok (.aload_n 0, 1) := by decide +kernel
theorem d_M_replay_88 : decode b_M_replay 88 = .ok (.getfield 35, 3) := by decide +kernel
theorem d_M_replay_91 : decode b_M_replay 91 = .ok (.iconst 0, 1) := by decide +kernel
theorem d_M_replay_92 : decode b_M_replay 92 = .ok (.aload_n 0, 1) := by decide +kernel
theorem d_M_replay_93 : decode b_M_replay 93 = .ok (.getfield 35, 3) := by decide +kernel
theorem d_M_replay_96 : decode b_M_replay 96 = .ok (.iconst 0, 1) := by decide +kernel
theorem d_M_replay_97 : decode b_M_replay 97 = .ok (.iaload, 1) := by decide +kernel
theorem d_M_replay_98 : decode b_M_replay 98 = .ok (.iconst 1, 1) := by decide +kernel
theorem d_M_replay_99 : decode b_M_replay 99 = .ok (.aload_n 0, 1) := by decide +kernel
theorem d_M_replay_100 : decode b_M_replay 100 = .ok (.getfield 41, 3) := by decide +kernel
theorem d_M_replay_103 : decode b_M_replay 103 = .ok (.iload_n 2, 1) := by decide +kernel
theorem d_M_replay_104 : decode b_M_replay 104 = .ok (.iaload, 1) := by decide +kernel
theorem d_M_replay_105 : decode b_M_replay 105 = .ok (.ishl, 1) := by decide +kernel
theorem d_M_replay_106 : decode b_M_replay 106 = .ok (.ior, 1) := by decide +kernel
theorem d_M_replay_107 : decode b_M_replay 107 = .ok (.iastore, 1) := by decide +kernel
theorem d_M_replay_108 : decode b_M_replay 108 = .ok (.iinc 2 1, 3) := by decide +kernel
theorem d_M_replay_111 : decode b_M_replay 111 = .ok (.goto (-86), 3) := by decide +kernel
theorem d_M_replay_114 : decode b_M_replay 114 = .ok (.aload_n 0, 1) := by decide +kernel
theorem d_M_replay_115 : decode b_M_replay 115 = .ok (.invokevirtual 80, 3) := by decide +kernel
theorem d_M_replay_118 : decode b_M_replay 118 = .ok (.iconst 0, 1) := by decide +kernel
theorem d_M_replay_119 : decode b_M_replay 119 = .ok (.istore_n 2, 1) := by decide +kernel
theorem d_M_replay_120 : decode b_M_replay 120 = .ok (.iconst 0, 1) := by decide +kernel
theorem d_M_replay_121 : decode b_M_replay 121 = .ok (.istore_n 3, 1) := by decide +kernel
theorem d_M_replay_122 : decode b_M_replay 122 = .ok (.iload_n 3, 1) := by decide +kernel
theorem d_M_replay_123 : decode b_M_replay 123 = .ok (.aload_n 0, 1) := by decide +kernel
theorem d_M_replay_124 : decode b_M_replay 124 = .ok (.getfield 59, 3) := by decide +kernel
theorem d_M_replay_127 : decode b_M_replay 127 = .ok (.if_icmp .ge 21, 3) := by decide +kernel
theorem d_M_replay_130 : decode b_M_replay 130 = .ok (.aload_n 0, 1) := by decide +kernel
theorem d_M_replay_131 : decode b_M_replay 131 = .ok (.iconst 0, 1) := by decide +kernel
theorem d_M_replay_132 : decode b_M_replay 132 = .ok (.iload_n 3, 1) := by decide +kernel
theorem d_M_replay_133 : decode b_M_replay 133 = .ok (.invokevirtual 94, 3) := by decide +kernel
theorem d_M_replay_136 : decode b_M_replay 136 = .ok (.ifCond .eq 6, 3) := by decide +kernel
theorem d_M_replay_139 : decode b_M_replay 139 = .ok (.iinc 2 1, 3) := by decide +kernel
theorem d_M_replay_142 : decode b_M_replay 142 = .ok (.iinc 3 1, 3) := by decide +kernel
theorem d_M_replay_145 : decode b_M_replay 145 = .ok (.goto (-23), 3) := by decide +kernel
theorem d_M_replay_148 : decode b_M_replay 148 = .ok (.iload_n 2, 1) := by decide +kernel
theorem d_M_replay_149 : decode b_M_replay 149 = .ok (.ireturn, 1) := by decide +kernel
theorem d_M_at_0 : decode b_M_at 0 = .ok (.aload_n 0, 1) := by decide +kernel
theorem d_M_at_1 : decode b_M_at 1 = .ok (.aload_n 0, 1) := by decide +kernel
theorem d_M_at_2 : decode b_M_at 2 = .ok (.iload_n 1, 1) := by decide +kernel
theorem d_M_at_3 : decode b_M_at 3 = .ok (.invokevirtual 90, 3) := by decide +kernel
theorem d_M_at_6 : decode b_M_at 6 = .ok (.ifCond .eq 16, 3) := by decide +kernel
theorem d_M_at_9 : decode b_M_at 9 = .ok (.iload_n 2, 1) := by decide +kernel
theorem d_M_at_10 : decode b_M_at 10 = .ok (.iconst 0, 1) := by decide +kernel
theorem d_M_at_11 : decode b_M_at 11 = .ok (.iconst 4, 1) := by decide +kernel
theorem d_M_at_12 : decode b_M_at 12 = .ok (.invokestatic 62, 3) := by decide +kernel
theorem d_M_at_15 : decode b_M_at 15 = .ok (.ifCond .eq 7, 3) := by decide +kernel
theorem d_M_at_18 : decode b_M_at 18 = .ok (.iconst 1, 1) := by decide +kernel
theorem d_M_at_19 : decode b_M_at 19 = .ok (.goto 4, 3) := by decide +kernel
theorem d_M_at_22 : decode b_M_at 22 = .ok (.iconst 0, 1) := by decide +kernel
theorem d_M_at_23 : decode b_M_at 23 = .ok (.iconst 1, 1) := by decide +kernel
theorem d_M_at_24 : decode b_M_at 24 = .ok (.iconst 1, 1) := by decide +kernel
theorem d_M_at_25 : decode b_M_at 25 = .ok (.invokevirtual 73, 3) := by decide +kernel
theorem d_M_at_28 : decode b_M_at 28 = .ok (.ifCond .ne 5, 3) := by decide +kernel
theorem d_M_at_31 : decode b_M_at 31 = .ok (.iconst 0, 1) := by decide +kernel
theorem d_M_at_32 : decode b_M_at 32 = .ok (.ireturn, 1) := by decide +kernel
theorem d_M_at_33 : decode b_M_at 33 = .ok (.iload_n 2, 1) := by decide +kernel
theorem d_M_at_34 : decode b_M_at 34 = .ok (.iconst 3, 1) := by decide +kernel
theorem d_M_at_35 : decode b_M_at 35 = .ok (.if_icmp .ne 10, 3) := by decide +kernel
theorem d_M_at_38 : decode b_M_at 38 = .ok (.aload_n 0, 1) := by decide +kernel
theorem d_M_at_39 : decode b_M_at 39 = .ok (.getfield 23, 3) := by decide +kernel
theorem d_M_at_42 : decode b_M_at 42 = .ok (.iload_n 1, 1) := by decide +kernel
theorem d_M_at_43 : decode b_M_at 43 = .ok (.iaload, 1) := by decide +kernel
theorem d_M_at_44 : decode b_M_at 44 = .ok (.ireturn, 1) := by decide +kernel
theorem d_M_at_45 : decode b_M_at 45 = .ok (.iload_n 2, 1) := by decide +kernel
theorem d_M_at_46 : decode b_M_at 46 = .ok (.iconst 4, 1) := by decide +kernel
theorem d_M_at_47 : decode b_M_at 47 = .ok (.if_icmp .ne 10, 3) := by decide +kernel
theorem d_M_at_50 : decode b_M_at 50 = .ok (.aload_n 0, 1) := by decide +kernel
theorem d_M_at_51 : decode b_M_at 51 = .ok (.getfield 26, 3) := by decide +kernel
theorem d_M_at_54 : decode b_M_at 54 = .ok (.iload_n 1, 1) := by decide +kernel
theorem d_M_at_55 : decode b_M_at 55 = .ok (.iaload, 1) := by decide +kernel
theorem d_M_at_56 : decode b_M_at 56 = .ok (.ireturn, 1) := by decide +kernel
theorem d_M_at_57 : decode b_M_at 57 = .ok (.iconst 0, 1) := by decide +kernel
theorem d_M_at_58 : decode b_M_at 58 = .ok (.istore_n 3, 1) := by decide +kernel
theorem d_M_at_59 : decode b_M_at 59 = .ok (.iload_n 3, 1) := by decide +kernel
theorem d_M_at_60 : decode b_M_at 60 = .ok (.aload_n 0, 1) := by decide +kernel
theorem d_M_at_61 : decode b_M_at 61 = .ok (.getfield 7, 3) := by decide +kernel
theorem d_M_at_64 : decode b_M_at 64 = .ok (.if_icmp .ge 81, 3) := by decide +kernel
theorem d_M_at_67 : decode b_M_at 67 = .ok (.iconst 0, 1) := by decide +kernel
theorem d_M_at_68 : decode b_M_at 68 = .ok (.istore 4, 2) := by decide +kernel
theorem d_M_at_70 : decode b_M_at 70 = .ok (.iload 4, 2) := by decide +kernel
theorem d_M_at_72 : decode b_M_at 72 = .ok (.aload_n 0, 1) := by decide +kernel
theorem d_M_at_73 : decode b_M_at 73 = .ok (.getfield 32, 3) := by decide +kernel
theorem d_M_at_76 : decode b_M_at 76 = .ok (.iload_n 3, 1) := by decide +kernel
theorem d_M_at_77 : decode b_M_at 77 = .ok (.iaload, 1) := by decide +kernel
theorem d_M_at_78 : decode b_M_at 78 = .ok (.if_icmp .ge 61, 3) := by decide +kernel
theorem d_M_at_81 : decode b_M_at 81 = .ok (.aload_n 0, 1) := by decide +kernel
theorem d_M_at_82 : decode b_M_at 82 = .ok (.getfield 29, 3) := by decide +kernel
theorem d_M_at_85 : decode b_M_at 85 = .ok (.iconst 0, 1) := by decide +kernel
theorem d_M_at_86 : decode b_M_at 86 = .ok (.iload_n 3, 1) := by decide +kernel
theorem d_M_at_87 : decode b_M_at 87 = .ok (.iload 4, 2) := by decide +kernel
theorem d_M_at_89 : decode b_M_at 89 = .ok (.invokestatic 83, 3) := by decide +kernel
theorem d_M_at_92 : decode b_M_at 92 = .ok (.iaload, 1) := by decide +kernel
theorem d_M_at_93 : decode b_M_at 93 = .ok (.iload_n 1, 1) := by decide +kernel
theorem d_M_at_94 : decode b_M_at 94 = .ok (.if_icmp .ne 39, 3) := by decide +kernel
theorem d_M_at_97 : decode b_M_at 97 = .ok (.iload_n 2, 1) := by decide +kernel
theorem d_M_at_98 : decode b_M_at 98 = .ok (.ifCond .ne 7, 3) := by decide +kernel
theorem d_M_at_101 : decode b_M_at 101 = .ok (.iload_n 3, 1) := by decide +kernel
theorem d_M_at_102 : decode b_M_at 102 = .ok (.goto 30, 3) := by decide +kernel
theorem d_M_at_105 : decode b_M_at 105 = .ok (.iload_n 2, 1) := by decide +kernel
theorem d_M_at_106 : decode b_M_at 106 = .ok (.iconst 1, 1) := by decide +kernel
theorem d_M_at_107 : decode b_M_at 107 = .ok (.if_icmp .ne 8, 3) := by decide +kernel
theorem d_M_at_110 : decode b_M_at 110 = .ok (.iload 4, 2) := by decide +kernel
theorem d_M_at_112 : decode b_M_at 112 = .ok (.goto 20, 3) := by decide +kernel
theorem d_M_at_115 : decode b_M_at 115 = .ok (.aload_n 0, 1) := by decide +kernel
theorem d_M_at_116 : decode b_M_at 116 = .ok (.iconst 0, 1) := by decide +kernel
theorem d_M_at_117 : decode b_M_at 117 = .ok (.iload_n 3, 1) := by decide +kernel
theorem d_M_at_118 : decode b_M_at 118 = .ok (.iload 4, 2) := by decide +kernel
theorem d_M_at_120 : decode b_M_at 120 = .ok (.iload_n 1, 1) := by decide +kernel
theorem d_M_at_121 : decode b_M_at 121 = .ok (.invokevirtual 101, 3) := by decide +kernel
theorem d_M_at_124 : decode b_M_at 124 = .ok (.ifCond .eq 7, 3) := by decide +kernel
theorem d_M_at_127 : decode b_M_at 127 = .ok (.iconst 1, 1) := by decide +kernel
theorem d_M_at_128 : decode b_M_at 128 = .ok (.goto 4, 3) := by decide +kernel
theorem d_M_at_131 : decode b_M_at 131 = .ok (.iconst 0, 1) := by decide +kernel
theorem d_M_at_132 : decode b_M_at 132 = .ok (.ireturn, 1) := by decide +kernel
theorem d_M_at_133 : decode b_M_at 133 = .ok (.iinc 4 1, 3) := by decide +kernel
theorem d_M_at_136 : decode b_M_at 136 = .ok (.goto (-66), 3) := by decide +kernel
theorem d_M_at_139 : decode b_M_at 139 = .ok (.iinc 3 1, 3) := by decide +kernel
theorem d_M_at_142 : decode b_M_at 142 = .ok (.goto (-83), 3) := by decide +kernel
theorem d_M_at_145 : decode b_M_at 145 = .ok (.iload_n 2, 1) := by decide +kernel
theorem d_M_at_146 : decode b_M_at 146 = .ok (.iconst 2, 1) := by decide +kernel
theorem d_M_at_147 : decode b_M_at 147 = .ok (.if_icmp .ne 7, 3) := by decide +kernel
theorem d_M_at_150 : decode b_M_at 150 = .ok (.iconst 0, 1) := by decide +kernel
theorem d_M_at_151 : decode b_M_at 151 = .ok (.goto 4, 3) := by decide +kernel
theorem d_M_at_154 : decode b_M_at 154 = .ok (.iconst (-1), 1) := by decide +kernel
theorem d_M_at_155 : decode b_M_at 155 = .ok (.ireturn, 1) := by decide +kernel
theorem d_M_tidies_0 : decode b_M_tidies 0 = .ok (.iconst 0, 1) := by decide +kernel
theorem d_M_tidies_1 : decode b_M_tidies 1 = .ok (.istore_n 1, 1) := by decide +kernel
theorem d_M_tidies_2 : decode b_M_tidies 2 = .ok (.iload_n 1, 1) := by decide +kernel
theorem d_M_tidies_3 : decode b_M_tidies 3 = .ok (.aload_n 0, 1) := by decide +kernel
theorem d_M_tidies_4 : decode b_M_tidies 4 = .ok (.getfield 7, 3) := by decide +kernel
theorem d_M_tidies_7 : decode b_M_tidies 7 = .ok (.if_icmp .ge 105, 3) := by decide +kernel
theorem d_M_tidies_10 : decode b_M_tidies 10 = .ok (.aload_n 0, 1) := by decide +kernel
theorem d_M_tidies_11 : decode b_M_tidies 11 = .ok (.iconst 0, 1) := by decide +kernel
theorem d_M_tidies_12 : decode b_M_tidies 12 = .ok (.iload_n 1, 1) := by decide +kernel
theorem d_M_tidies_13 : decode b_M_tidies 13 = .ok (.invokevirtual 109, 3) := by decide +kernel
theorem d_M_tidies_16 : decode b_M_tidies 16 = .ok (.istore_n 2, 1) := by decide +kernel
theorem d_M_tidies_17 : decode b_M_tidies 17 = .ok (.iload_n 2, 1) := by decide +kernel
theorem d_M_tidies_18 : decode b_M_tidies 18 = .ok (.ifCond .lt 88, 3) := by decide +kernel
theorem d_M_tidies_21 : decode b_M_tidies 21 = .ok (.aload_n 0, 1) := by decide +kernel
theorem d_M_tidies_22 : decode b_M_tidies 22 = .ok (.iconst 0, 1) := by decide +kernel
theorem d_M_tidies_23 : decode b_M_tidies 23 = .ok (.iload_n 1, 1) := by decide +kernel
theorem d_M_tidies_24 : decode b_M_tidies 24 = .ok (.aload_n 0, 1) := by decide +kernel
theorem d_M_tidies_25 : decode b_M_tidies 25 = .ok (.getfield 32, 3) := by decide +kernel
theorem d_M_tidies_28 : decode b_M_tidies 28 = .ok (.iload_n 1, 1) := by decide +kernel
theorem d_M_tidies_29 : decode b_M_tidies 29 = .ok (.iaload, 1) := by decide +kernel
theorem d_M_tidies_30 : decode b_M_tidies 30 = .ok (.iconst 1, 1) := by decide +kernel
theorem d_M_tidies_31 : decode b_M_tidies 31 = .ok (.isub, 1) := by decide +kernel
theorem d_M_tidies_32 : decode b_M_tidies 32 = .ok (.iload_n 2, 1) := by decide +kernel
theorem d_M_tidies_33 : decode b_M_tidies 33 = .ok (.invokevirtual 101, 3) := by decide +kernel
theorem d_M_tidies_36 : decode b_M_tidies 36 = .ok (.ifCond .ne 6, 3) := by decide +kernel
theorem d_M_tidies_39 : decode b_M_tidies 39 = .ok (.goto 67, 3) := by decide +kernel
theorem d_M_tidies_42 : decode b_M_tidies 42 = .ok (.iconst 0, 1) := by decide +kernel
theorem d_M_tidies_43 : decode b_M_tidies 43 = .ok (.istore_n 3, 1) := by decide +kernel
theorem d_M_tidies_44 : decode b_M_tidies 44 = .ok (.iload_n 3, 1) := by decide +kernel
theorem d_M_tidies_45 : decode b_M_tidies 45 = .ok (.aload_n 0, 1) := by decide +kernel
theorem d_M_tidies_46 : decode b_M_tidies 46 = .ok (.getfield 7, 3) := by decide +kernel
theorem d_M_tidies_49 : decode b_M_tidies 49 = .ok (.if_icmp .ge 57, 3) := by decide +kernel
theorem d_M_tidies_52 : decode b_M_tidies 52 = .ok (.iload_n 3, 1) := by decide +kernel
theorem d_M_tidies_53 : decode b_M_tidies 53 = .ok (.iload_n 1, 1) := by decide +kernel
theorem d_M_tidies_54 : decode b_M_tidies 54 = .ok (.if_icmp .eq 46, 3) := by decide +kernel
theorem d_M_tidies_57 : decode b_M_tidies 57 = .ok (.aload_n 0, 1) := by decide +kernel
theorem d_M_tidies_58 : decode b_M_tidies 58 = .ok (.iconst 0, 1) := by decide +kernel
theorem d_M_tidies_59 : decode b_M_tidies 59 = .ok (.iload_n 3, 1) := by decide +kernel
theorem d_M_tidies_60 : decode b_M_tidies 60 = .ok (.aload_n 0, 1) := by decide +kernel
theorem d_M_tidies_61 : decode b_M_tidies 61 = .ok (.getfield 20, 3) := by decide +kernel
theorem d_M_tidies_64 : decode b_M_tidies 64 = .ok (.iload_n 2, 1) := by decide +kernel
theorem d_M_tidies_65 : decode b_M_tidies 65 = .ok (.iaload, 1) := by decide +kernel
theorem d_M_tidies_66 : decode b_M_tidies 66 = .ok (.invokevirtual 87, 3) := by decide +kernel
theorem d_M_tidies_69 : decode b_M_tidies 69 = .ok (.ifCond .eq 31, 3) := by decide +kernel
theorem d_M_tidies_72 : decode b_M_tidies 72 = .ok (.aload_n 0, 1) := by decide +kernel
theorem d_M_tidies_73 : decode b_M_tidies 73 = .ok (.iconst 0, 1) := by decide +kernel
theorem d_M_tidies_74 : decode b_M_tidies 74 = .ok (.iload_n 3, 1) := by decide +kernel
theorem d_M_tidies_75 : decode b_M_tidies 75 = .ok (.aload_n 0, 1) := by decide +kernel
theorem d_M_tidies_76 : decode b_M_tidies 76 = .ok (.getfield 32, 3) := by decide +kernel
theorem d_M_tidies_79 : decode b_M_tidies 79 = .ok (.iload_n 3, 1) := by decide +kernel
theorem d_M_tidies_80 : decode b_M_tidies 80 = .ok (.iaload, 1) := by decide +kernel
theorem d_M_tidies_81 : decode b_M_tidies 81 = .ok (.iload_n 2, 1) := by decide +kernel
theorem d_M_tidies_82 : decode b_M_tidies 82 = .ok (.invokevirtual 101, 3) := by decide +kernel
theorem d_M_tidies_85 : decode b_M_tidies 85 = .ok (.ifCond .eq 6, 3) := by decide +kernel
theorem d_M_tidies_88 : decode b_M_tidies 88 = .ok (.goto 12, 3) := by decide +kernel
theorem d_M_tidies_91 : decode b_M_tidies 91 = .ok (.aload_n 0, 1) := by decide +kernel
theorem d_M_tidies_92 : decode b_M_tidies 92 = .ok (.iconst 0, 1) := by decide +kernel
theorem d_M_tidies_93 : decode b_M_tidies 93 = .ok (.iload_n 1, 1) := by decide +kernel
theorem d_M_tidies_94 : decode b_M_tidies 94 = .ok (.iload_n 3, 1) := by decide +kernel
theorem d_M_tidies_95 : decode b_M_tidies 95 = .ok (.invokevirtual 130, 3) := by decide +kernel
theorem d_M_tidies_98 : decode b_M_tidies 98 = .ok (.iconst 1, 1) := by decide +kernel
theorem d_M_tidies_99 : decode b_M_tidies 99 = .ok (.ireturn, 1) := by decide +kernel
theorem d_M_tidies_100 : decode b_M_tidies 100 = .ok (.iinc 3 1, 3) := by decide +kernel
theorem d_M_tidies_103 : decode b_M_tidies 103 = .ok (.goto (-59), 3) := by decide +kernel
theorem d_M_tidies_106 : decode b_M_tidies 106 = .ok (.iinc 1 1, 3) := by decide +kernel
theorem d_M_tidies_109 : decode b_M_tidies 109 = .ok (.goto (-107), 3) := by decide +kernel
theorem d_M_tidies_112 : decode b_M_tidies 112 = .ok (.iconst 0, 1) := by decide +kernel
theorem d_M_tidies_113 : decode b_M_tidies 113 = .ok (.ireturn, 1) := by decide +kernel
theorem d_M_tidy_0 : decode b_M_tidy 0 = .ok (.aload_n 0, 1) := by decide +kernel
theorem d_M_tidy_1 : decode b_M_tidy 1 = .ok (.iload_n 1, 1) := by decide +kernel
theorem d_M_tidy_2 : decode b_M_tidy 2 = .ok (.iconst 0, 1) := by decide +kernel
theorem d_M_tidy_3 : decode b_M_tidy 3 = .ok (.bipush 20, 2) := by decide +kernel
theorem d_M_tidy_5 : decode b_M_tidy 5 = .ok (.invokestatic 62, 3) := by decide +kernel
theorem d_M_tidy_8 : decode b_M_tidy 8 = .ok (.iconst 1, 1) := by decide +kernel
theorem d_M_tidy_9 : decode b_M_tidy 9 = .ok (.iconst 1, 1) := by decide +kernel
theorem d_M_tidy_10 : decode b_M_tidy 10 = .ok (.invokevirtual 73, 3) := by decide +kernel
theorem d_M_tidy_13 : decode b_M_tidy 13 = .ok (.ifCond .ne 5, 3) := by decide +kernel
theorem d_M_tidy_16 : decode b_M_tidy 16 = .ok (.iconst 0, 1) := by decide +kernel
theorem d_M_tidy_17 : decode b_M_tidy 17 = .ok (.ireturn, 1) := by decide +kernel
theorem d_M_tidy_18 : decode b_M_tidy 18 = .ok (.iconst 0, 1) := by decide +kernel
theorem d_M_tidy_19 : decode b_M_tidy 19 = .ok (.istore_n 2, 1) := by decide +kernel
theorem d_M_tidy_20 : decode b_M_tidy 20 = .ok (.iload_n 2, 1) := by decide +kernel
theorem d_M_tidy_21 : decode b_M_tidy 21 = .ok (.iload_n 1, 1) := by decide +kernel
theorem d_M_tidy_22 : decode b_M_tidy 22 = .ok (.if_icmp .ge 16, 3) := by decide +kernel
theorem d_M_tidy_25 : decode b_M_tidy 25 = .ok (.aload_n 0, 1) := by decide +kernel
theorem d_M_tidy_26 : decode b_M_tidy 26 = .ok (.invokevirtual 140, 3) := by decide +kernel
theorem d_M_tidy_29 : decode b_M_tidy 29 = .ok (.ifCond .eq 9, 3) := by decide +kernel
theorem d_M_tidy_32 : decode b_M_tidy 32 = .ok (.iinc 2 1, 3) := by decide +kernel
theorem d_M_tidy_35 : decode b_M_tidy 35 = .ok (.goto (-15), 3) := by decide +kernel
theorem d_M_tidy_38 : decode b_M_tidy 38 = .ok (.iload_n 2, 1) := by decide +kernel
theorem d_M_tidy_39 : decode b_M_tidy 39 = .ok (.ifCond .le 7, 3) := by decide +kernel
theorem d_M_tidy_42 : decode b_M_tidy 42 = .ok (.aload_n 0, 1) := by decide +kernel
theorem d_M_tidy_43 : decode b_M_tidy 43 = .ok (.invokevirtual 80, 3) := by decide +kernel
theorem d_M_tidy_46 : decode b_M_tidy 46 = .ok (.iload_n 2, 1) := by decide +kernel
theorem d_M_tidy_47 : decode b_M_tidy 47 = .ok (.ireturn, 1) := by decide +kernel
theorem d_M_wagon_0 : decode b_M_wagon 0 = .ok (.aload_n 0, 1) := by decide +kernel
theorem d_M_wagon_1 : decode b_M_wagon 1 = .ok (.iload_n 1, 1) := by decide +kernel
theorem d_M_wagon_2 : decode b_M_wagon 2 = .ok (.iconst 1, 1) := by decide +kernel
theorem d_M_wagon_3 : decode b_M_wagon 3 = .ok (.sipush 5000, 3) := by decide +kernel
theorem d_M_wagon_6 : decode b_M_wagon 6 = .ok (.invokestatic 62, 3) := by decide +kernel
theorem d_M_wagon_9 : decode b_M_wagon 9 = .ok (.aload_n 0, 1) := by decide +kernel
theorem d_M_wagon_10 : decode b_M_wagon 10 = .ok (.getfield 77, 3) := by decide +kernel
theorem d_M_wagon_13 : decode b_M_wagon 13 = .ok (.iconst 4, 1) := by decide +kernel
theorem d_M_wagon_14 : decode b_M_wagon 14 = .ok (.if_icmp .ge 7, 3) := by decide +kernel
theorem d_M_wagon_17 : decode b_M_wagon 17 = .ok (.iconst 1, 1) := by decide +kernel
theorem d_M_wagon_18 : decode b_M_wagon 18 = .ok (.goto 4, 3) := by decide +kernel
theorem d_M_wagon_21 : decode b_M_wagon 21 = .ok (.iconst 0, 1) := by decide +kernel
theorem d_M_wagon_22 : decode b_M_wagon 22 = .ok (.iconst 1, 1) := by decide +kernel
theorem d_M_wagon_23 : decode b_M_wagon 23 = .ok (.invokevirtual 73, 3) := by decide +kernel
theorem d_M_wagon_26 : decode b_M_wagon 26 = .ok (.ifCond .ne 5, 3) := by decide +kernel
theorem d_M_wagon_29 : decode b_M_wagon 29 = .ok (.iconst 0, 1) := by decide +kernel
theorem d_M_wagon_30 : decode b_M_wagon 30 = .ok (.ireturn, 1) := by decide +kernel
theorem d_M_wagon_31 : decode b_M_wagon 31 = .ok (.aload_n 0, 1) := by decide +kernel
theorem d_M_wagon_32 : decode b_M_wagon 32 = .ok (.getfield 50, 3) := by decide +kernel
theorem d_M_wagon_35 : decode b_M_wagon 35 = .ok (.aload_n 0, 1) := by decide +kernel
theorem d_M_wagon_36 : decode b_M_wagon 36 = .ok (.getfield 77, 3) := by decide +kernel
theorem d_M_wagon_39 : decode b_M_wagon 39 = .ok (.iload_n 1, 1) := by decide +kernel
theorem d_M_wagon_40 : decode b_M_wagon 40 = .ok (.iastore, 1) := by decide +kernel
theorem d_M_wagon_41 : decode b_M_wagon 41 = .ok (.aload_n 0, 1) := by decide +kernel
theorem d_M_wagon_42 : decode b_M_wagon 42 = .ok (.getfield 53, 3) := by decide +kernel
theorem d_M_wagon_45 : decode b_M_wagon 45 = .ok (.aload_n 0, 1) := by decide +kernel
theorem d_M_wagon_46 : decode b_M_wagon 46 = .ok (.getfield 77, 3) := by decide +kernel
theorem d_M_wagon_49 : decode b_M_wagon 49 = .ok (.iconst 0, 1) := by decide +kernel
theorem d_M_wagon_50 : decode b_M_wagon 50 = .ok (.iastore, 1) := by decide +kernel
theorem d_M_wagon_51 : decode b_M_wagon 51 = .ok (.aload_n 0, 1) := by decide +kernel
theorem d_M_wagon_52 : decode b_M_wagon 52 = .ok (.dup, 1) := by decide +kernel
theorem d_M_wagon_53 : decode b_M_wagon 53 = .ok (.getfield 77, 3) := by decide +kernel
theorem d_M_wagon_56 : decode b_M_wagon 56 = .ok (.iconst 1, 1) := by decide +kernel
theorem d_M_wagon_57 : decode b_M_wagon 57 = .ok (.iadd, 1) := by decide +kernel
theorem d_M_wagon_58 : decode b_M_wagon 58 = .ok (.putfield 77, 3) := by decide +kernel
theorem d_M_wagon_61 : decode b_M_wagon 61 = .ok (.aload_n 0, 1) := by decide +kernel
theorem d_M_wagon_62 : decode b_M_wagon 62 = .ok (.getfield 77, 3) := by decide +kernel
theorem d_M_wagon_65 : decode b_M_wagon 65 = .ok (.iconst 1, 1) := by decide +kernel
theorem d_M_wagon_66 : decode b_M_wagon 66 = .ok (.isub, 1) := by decide +kernel
theorem d_M_wagon_67 : decode b_M_wagon 67 = .ok (.ireturn, 1) := by decide +kernel
theorem d_M_load_0 : decode b_M_load 0 = .ok (.aload_n 0, 1) := by decide +kernel
theorem d_M_load_1 : decode b_M_load 1 = .ok (.iload_n 1, 1) := by decide +kernel
theorem d_M_load_2 : decode b_M_load 2 = .ok (.invokevirtual 90, 3) := by decide +kernel
theorem d_M_load_5 : decode b_M_load 5 = .ok (.istore_n 2, 1) := by decide +kernel
theorem d_M_load_6 : decode b_M_load 6 = .ok (.iconst 0, 1) := by decide +kernel
theorem d_M_load_7 : decode b_M_load 7 = .ok (.istore_n 3, 1) := by decide +kernel
theorem d_M_load_8 : decode b_M_load 8 = .ok (.iload_n 2, 1) := by decide +kernel
theorem d_M_load_9 : decode b_M_load 9 = .ok (.ifCond .eq 39, 3) := by decide +kernel
theorem d_M_load_12 : decode b_M_load 12 = .ok (.iload_n 3, 1) := by decide +kernel
theorem d_M_load_13 : decode b_M_load 13 = .ok (.aload_n 0, 1) := by decide +kernel
theorem d_M_load_14 : decode b_M_load 14 = .ok (.getfield 77, 3) := by decide +kernel
theorem d_M_load_17 : decode b_M_load 17 = .ok (.if_icmp .ge 31, 3) := by decide +kernel
theorem d_M_load_20 : decode b_M_load 20 = .ok (.aload_n 0, 1) := by decide +kernel
theorem d_M_load_21 : decode b_M_load 21 = .ok (.getfield 53, 3) := by decide +kernel
theorem d_M_load_24 : decode b_M_load 24 = .ok (.iload_n 3, 1) := by decide +kernel
theorem d_M_load_25 : decode b_M_load 25 = .ok (.iaload, 1) := by decide +kernel
theorem d_M_load_26 : decode b_M_load 26 = .ok (.aload_n 0, 1) := by decide +kernel
theorem d_M_load_27 : decode b_M_load 27 = .ok (.getfield 16, 3) := by decide +kernel
theorem d_M_load_30 : decode b_M_load 30 = .ok (.iload_n 1, 1) := by decide +kernel
theorem d_M_load_31 : decode b_M_load 31 = .ok (.iaload, 1) := by decide +kernel
theorem d_M_load_32 : decode b_M_load 32 = .ok (.iadd, 1) := by decide +kernel
theorem d_M_load_33 : decode b_M_load 33 = .ok (.aload_n 0, 1) := by decide +kernel
theorem d_M_load_34 : decode b_M_load 34 = .ok (.getfield 50, 3) := by decide +kernel
theorem d_M_load_37 : decode b_M_load 37 = .ok (.iload_n 3, 1) := by decide +kernel
theorem d_M_load_38 : decode b_M_load 38 = .ok (.iaload, 1) := by decide +kernel
theorem d_M_load_39 : decode b_M_load 39 = .ok (.if_icmp .le 9, 3) := by decide +kernel
theorem d_M_load_42 : decode b_M_load 42 = .ok (.iinc 3 1, 3) := by decide +kernel
theorem d_M_load_45 : decode b_M_load 45 = .ok (.goto (-37), 3) := by decide +kernel
theorem d_M_load_48 : decode b_M_load 48 = .ok (.aload_n 0, 1) := by decide +kernel
theorem d_M_load_49 : decode b_M_load 49 = .ok (.iload_n 2, 1) := by decide +kernel
theorem d_M_load_50 : decode b_M_load 50 = .ok (.iload_n 2, 1) := by decide +kernel
theorem d_M_load_51 : decode b_M_load 51 = .ok (.ifCond .eq 25, 3) := by decide +kernel
theorem d_M_load_54 : decode b_M_load 54 = .ok (.aload_n 0, 1) := by decide +kernel
theorem d_M_load_55 : decode b_M_load 55 = .ok (.iconst 0, 1) := by decide +kernel
theorem d_M_load_56 : decode b_M_load 56 = .ok (.iload_n 1, 1) := by decide +kernel
theorem d_M_load_57 : decode b_M_load 57 = .ok (.invokevirtual 94, 3) := by decide +kernel
theorem d_M_load_60 : decode b_M_load 60 = .ok (.ifCond .eq 16, 3) := by decide +kernel
theorem d_M_load_63 : decode b_M_load 63 = .ok (.aload_n 0, 1) := by decide +kernel
theorem d_M_load_64 : decode b_M_load 64 = .ok (.getfield 26, 3) := by decide +kernel
theorem d_M_load_67 : decode b_M_load 67 = .ok (.iload_n 1, 1) := by decide +kernel
theorem d_M_load_68 : decode b_M_load 68 = .ok (.iaload, 1) := by decide +kernel
theorem d_M_load_69 : decode b_M_load 69 = .ok (.ifCond .ge 7, 3) := by decide +kernel
theorem d_M_load_72 : decode b_M_load 72 = .ok (.iconst 1, 1) := by decide +kernel
theorem d_M_load_73 : decode b_M_load 73 = .ok (.goto 4, 3) := by decide +kernel
theorem d_M_load_76 : decode b_M_load 76 = .ok (.iconst 0, 1) := by decide +kernel
theorem d_M_load_77 : decode b_M_load 77 = .ok (.iload_n 3, 1) := by decide +kernel
theorem d_M_load_78 : decode b_M_load 78 = .ok (.aload_n 0, 1) := by decide +kernel
theorem d_M_load_79 : decode b_M_load 79 = .ok (.getfield 77, 3) := by decide +kernel
theorem d_M_load_82 : decode b_M_load 82 = .ok (.if_icmp .ge 7, 3) := by decide +kernel
theorem d_M_load_85 : decode b_M_load 85 = .ok (.iconst 1, 1) := by decide +kernel
theorem d_M_load_86 : decode b_M_load 86 = .ok (.goto 4, 3) := by decide +kernel
theorem d_M_load_89 : decode b_M_load 89 = .ok (.iconst 0, 1) := by decide +kernel
theorem d_M_load_90 : decode b_M_load 90 = .ok (.invokevirtual 73, 3) := by decide +kernel
theorem d_M_load_93 : decode b_M_load 93 = .ok (.ifCond .ne 5, 3) := by decide +kernel
theorem d_M_load_96 : decode b_M_load 96 = .ok (.iconst 0, 1) := by decide +kernel
theorem d_M_load_97 : decode b_M_load 97 = .ok (.ireturn, 1) := by decide +kernel
theorem d_M_load_98 : decode b_M_load 98 = .ok (.aload_n 0, 1) := by decide +kernel
theorem d_M_load_99 : decode b_M_load 99 = .ok (.getfield 53, 3) := by decide +kernel
theorem d_M_load_102 : decode b_M_load 102 = .ok (.iload_n 3, 1) := by decide +kernel
theorem d_M_load_103 : decode b_M_load 103 = .ok (.aload_n 0, 1) := by decide +kernel
theorem d_M_load_104 : decode b_M_load 104 = .ok (.getfield 53, 3) := by decide +kernel
theorem d_M_load_107 : decode b_M_load 107 = .ok (.iload_n 3, 1) := by decide +kernel
theorem d_M_load_108 : decode b_M_load 108 = .ok (.iaload, 1) := by decide +kernel
theorem d_M_load_109 : decode b_M_load 109 = .ok (.aload_n 0, 1) := by decide +kernel
theorem d_M_load_110 : decode b_M_load 110 = .ok (.getfield 16, 3) := by decide +kernel
theorem d_M_load_113 : decode b_M_load 113 = .ok (.iload_n 1, 1) := by decide +kernel
theorem d_M_load_114 : decode b_M_load 114 = .ok (.iaload, 1) := by decide +kernel
theorem d_M_load_115 : decode b_M_load 115 = .ok (.iadd, 1) := by decide +kernel
theorem d_M_load_116 : decode b_M_load 116 = .ok (.iastore, 1) := by decide +kernel
theorem d_M_load_117 : decode b_M_load 117 = .ok (.aload_n 0, 1) := by decide +kernel
theorem d_M_load_118 : decode b_M_load 118 = .ok (.getfield 26, 3) := by decide +kernel
theorem d_M_load_121 : decode b_M_load 121 = .ok (.iload_n 1, 1) := by decide +kernel
theorem d_M_load_122 : decode b_M_load 122 = .ok (.iload_n 3, 1) := by decide +kernel
theorem d_M_load_123 : decode b_M_load 123 = .ok (.iastore, 1) := by decide +kernel
theorem d_M_load_124 : decode b_M_load 124 = .ok (.iload_n 3, 1) := by decide +kernel
theorem d_M_load_125 : decode b_M_load 125 = .ok (.ireturn, 1) := by decide +kernel
theorem d_S_init_0 : decode b_S_init 0 = .ok (.aload_n 0, 1) := by decide +kernel
theorem d_S_init_1 : decode b_S_init 1 = .ok (.invokespecial 3, 3) := by decide +kernel
theorem d_S_init_4 : decode b_S_init 4 = .ok (.aload_n 0, 1) := by decide +kernel
theorem d_S_init_5 : decode b_S_init 5 = .ok (.bipush 22, 2) := by decide +kernel
theorem d_S_init_7 : decode b_S_init 7 = .ok (.newarray .int, 2) := by decide +kernel
theorem d_S_init_9 : decode b_S_init 9 = .ok (.putfield 11, 3) := by decide +kernel
theorem d_S_init_12 : decode b_S_init 12 = .ok (.aload_n 0, 1) := by decide +kernel
theorem d_S_init_13 : decode b_S_init 13 = .ok (.bipush 22, 2) := by decide +kernel
theorem d_S_init_15 : decode b_S_init 15 = .ok (.newarray .int, 2) := by decide +kernel
theorem d_S_init_17 : decode b_S_init 17 = .ok (.putfield 15, 3) := by decide +kernel
theorem d_S_init_20 : decode b_S_init 20 = .ok (.aload_n 0, 1) := by decide +kernel
theorem d_S_init_21 : decode b_S_init 21 = .ok (.bipush 22, 2) := by decide +kernel
theorem d_S_init_23 : decode b_S_init 23 = .ok (.newarray .int, 2) := by decide +kernel
theorem d_S_init_25 : decode b_S_init 25 = .ok (.putfield 18, 3) := by decide +kernel
theorem d_S_init_28 : decode b_S_init 28 = .ok (.return_, 1) := by decide +kernel
theorem d_S_forget_0 : decode b_S_forget 0 = .ok (.aload_n 0, 1) := by decide +kernel
theorem d_S_forget_1 : decode b_S_forget 1 = .ok (.iconst 0, 1) := by decide +kernel
theorem d_S_forget_2 : decode b_S_forget 2 = .ok (.putfield 21, 3) := by decide +kernel
theorem d_S_forget_5 : decode b_S_forget 5 = .ok (.aload_n 0, 1) := by decide +kernel
theorem d_S_forget_6 : decode b_S_forget 6 = .ok (.iconst 0, 1) := by decide +kernel
theorem d_S_forget_7 : decode b_S_forget 7 = .ok (.putfield 25, 3) := by decide +kernel
theorem d_S_forget_10 : decode b_S_forget 10 = .ok (.aload_n 0, 1) := by decide +kernel
theorem d_S_forget_11 : decode b_S_forget 11 = .ok (.iconst 0, 1) := by decide +kernel
theorem d_S_forget_12 : decode b_S_forget 12 = .ok (.putfield 28, 3) := by decide +kernel
theorem d_S_forget_15 : decode b_S_forget 15 = .ok (.aload_n 0, 1) := by decide +kernel
theorem d_S_forget_16 : decode b_S_forget 16 = .ok (.iconst 0, 1) := by decide +kernel
theorem d_S_forget_17 : decode b_S_forget 17 = .ok (.putfield 31, 3) := by decide +kernel
theorem d_S_forget_20 : decode b_S_forget 20 = .ok (.return_, 1) := by decide +kernel
theorem d_S_findBest_0 : decode b_S_findBest 0 = .ok (.aload_n 0, 1) := by decide +kernel
theorem d_S_findBest_1 : decode b_S_findBest 1 = .ok (.invokevirtual 35, 3) := by decide +kernel
theorem d_S_findBest_4 : decode b_S_findBest 4 = .ok (.aload_n 0, 1) := by decide +kernel
theorem d_S_findBest_5 : decode b_S_findBest 5 = .ok (.iload_n 2, 1) := by decide +kernel
theorem d_S_findBest_6 : decode b_S_findBest 6 = .ok (.putfield 38, 3) := by decide +kernel
theorem d_S_findBest_9 : decode b_S_findBest 9 = .ok (.aload_n 0, 1) := by decide +kernel
theorem d_S_findBest_10 : decode b_S_findBest 10 = .ok (.iconst 0, 1) := by decide +kernel
theorem d_S_findBest_11 : decode b_S_findBest 11 = .ok (.putfield 41, 3) := by decide +kernel
theorem d_S_findBest_14 : decode b_S_findBest 14 = .ok (.aload_n 1, 1) := by decide +kernel
theorem d_S_findBest_15 : decode b_S_findBest 15 = .ok (.invokevirtual 44, 3) := by decide +kernel
theorem d_S_findBest_18 : decode b_S_findBest 18 = .ok (.istore_n 3, 1) := by decide +kernel
theorem d_S_findBest_19 : decode b_S_findBest 19 = .ok (.iload_n 3, 1) := by decide +kernel
theorem d_S_findBest_20 : decode b_S_findBest 20 = .ok (.istore 4, 2) := by decide +kernel
theorem d_S_findBest_22 : decode b_S_findBest 22 = .ok (.iload 4, 2) := by decide +kernel
theorem d_S_findBest_24 : decode b_S_findBest 24 = .ok (.bipush 12, 2) := by decide +kernel
theorem d_S_findBest_26 : decode b_S_findBest 26 = .ok (.if_icmp .gt 69, 3) := by decide +kernel
theorem d_S_findBest_29 : decode b_S_findBest 29 = .ok (.aload_n 0, 1) := by decide +kernel
theorem d_S_findBest_30 : decode b_S_findBest 30 = .ok (.getfield 28, 3) := by decide +kernel
theorem d_S_findBest_33 : decode b_S_findBest 33 = .ok (.ifCond .ne 62, 3) := by decide +kernel
theorem d_S_findBest_36 : decode b_S_findBest 36 = .ok (.aload_n 0, 1) := by decide +kernel
theorem d_S_findBest_37 : decode b_S_findBest 37 = .ok (.getfield 41, 3) := by decide +kernel
theorem d_S_findBest_40 : decode b_S_findBest 40 = .ok (.ifCond .ne 55, 3) := by decide +kernel
theorem d_S_findBest_43 : decode b_S_findBest 43 = .ok (.aload_n 0, 1) := by decide +kernel
theorem d_S_findBest_44 : decode b_S_findBest 44 = .ok (.iload 4, 2) := by decide +kernel
theorem d_S_findBest_46 : decode b_S_findBest 46 = .ok (.putfield 50, 3) := by decide +kernel
theorem d_S_findBest_49 : decode b_S_findBest 49 = .ok (.aload_n 0, 1) := by decide +kernel
theorem d_S_findBest_50 : decode b_S_findBest 50 = .ok (.aload_n 0, 1) := by decide +kernel
theorem d_S_findBest_51 : decode b_S_findBest 51 = .ok (.aload_n 1, 1) := by decide +kernel
theorem d_S_findBest_52 : decode b_S_findBest 52 = .ok (.iconst 0, 1) := by decide +kernel
theorem d_S_findBest_53 : decode b_S_findBest 53 = .ok (.iload_n 3, 1) := by decide +kernel
theorem d_S_findBest_54 : decode b_S_findBest 54 = .ok (.invokevirtual 53, 3) := by decide +kernel
theorem d_S_findBest_57 : decode b_S_findBest 57 = .ok (.putfield 28, 3) := by decide +kernel
theorem d_S_findBest_60 : decode b_S_findBest 60 = .ok (.aload_n 0, 1) := by decide +kernel
theorem d_S_findBest_61 : decode b_S_findBest 61 = .ok (.getfield 31, 3) := by decide +kernel
theorem d_S_findBest_64 : decode b_S_findBest 64 = .ok (.istore 5, 2) := by decide +kernel
theorem d_S_findBest_66 : decode b_S_findBest 66 = .ok (.aload_n 0, 1) := by decide +kernel
theorem d_S_findBest_67 : decode b_S_findBest 67 = .ok (.aload_n 1, 1) := by decide +kernel
theorem d_S_findBest_68 : decode b_S_findBest 68 = .ok (.iconst 0, 1) := by decide +kernel
theorem d_S_findBest_69 : decode b_S_findBest 69 = .ok (.invokevirtual 57, 3) := by decide +kernel
theorem d_S_findBest_72 : decode b_S_findBest 72 = .ok (.aload_n 0, 1) := by decide +kernel
theorem d_S_findBest_73 : decode b_S_findBest 73 = .ok (.aload_n 0, 1) := by decide +kernel
theorem d_S_findBest_74 : decode b_S_findBest 74 = .ok (.getfield 28, 3) := by decide +kernel
theorem d_S_findBest_77 : decode b_S_findBest 77 = .ok (.ifCond .eq 8, 3) := by decide +kernel
theorem d_S_findBest_80 : decode b_S_findBest 80 = .ok (.iload 5, 2) := by decide +kernel
theorem d_S_findBest_82 : decode b_S_findBest 82 = .ok (.goto 4, 3) := by decide +kernel
theorem d_S_findBest_85 : decode b_S_findBest 85 = .ok (.iconst 0, 1) := by decide +kernel
theorem d_S_findBest_86 : decode b_S_findBest 86 = .ok (.putfield 31, 3) := by decide +kernel
theorem d_S_findBest_89 : decode b_S_findBest 89 = .ok (.iinc 4 1, 3) := by decide +kernel
theorem d_S_findBest_92 : decode b_S_findBest 92 = .ok (.goto (-70), 3) := by decide +kernel
theorem d_S_findBest_95 : decode b_S_findBest 95 = .ok (.aload_n 0, 1) := by decide +kernel
theorem d_S_findBest_96 : decode b_S_findBest 96 = .ok (.iconst 1, 1) := by decide +kernel
theorem d_S_findBest_97 : decode b_S_findBest 97 = .ok (.putfield 21, 3) := by decide +kernel
theorem d_S_findBest_100 : decode b_S_findBest 100 = .ok (.aload_n 0, 1) := by decide +kernel
theorem d_S_findBest_101 : decode b_S_findBest 101 = .ok (.aload_n 0, 1) := by decide +kernel
theorem d_S_findBest_102 : decode b_S_findBest 102 = .ok (.getfield 41, 3) := by decide +kernel
theorem d_S_findBest_105 : decode b_S_findBest 105 = .ok (.ifCond .ne 7, 3) := by decide +kernel
theorem d_S_findBest_108 : decode b_S_findBest 108 = .ok (.iconst 1, 1) := by decide +kernel
theorem d_S_findBest_109 : decode b_S_findBest 109 = .ok (.goto 4, 3) := by decide +kernel
theorem d_S_findBest_112 : decode b_S_findBest 112 = .ok (.iconst 0, 1) := by decide +kernel
theorem d_S_findBest_113 : decode b_S_findBest 113 = .ok (.putfield 25, 3) := by decide +kernel
theorem d_S_findBest_116 : decode b_S_findBest 116 = .ok (.aload_n 0, 1) := by decide +kernel
theorem d_S_findBest_117 : decode b_S_findBest 117 = .ok (.getfield 28, 3) := by decide +kernel
theorem d_S_findBest_120 : decode b_S_findBest 120 = .ok (.ifCond .eq 10, 3) := by decide +kernel
theorem d_S_findBest_123 : decode b_S_findBest 123 = .ok (.aload_n 0, 1) := by decide +kernel
theorem d_S_findBest_124 : decode b_S_findBest 124 = .ok (.invokevirtual 61, 3) := by decide +kernel
theorem d_S_findBest_127 : decode b_S_findBest 127 = .ok (.goto 4, 3) := by decide +kernel
theorem d_S_findBest_130 : decode b_S_findBest 130 = .ok (.iconst (-1), 1) := by decide +kernel
theorem d_S_findBest_131 : decode b_S_findBest 131 = .ok (.ireturn, 1) := by decide +kernel
theorem d_S_goOn_0 : decode b_S_goOn 0 = .ok (.aload_n 0, 1) := by decide +kernel
theorem d_S_goOn_1 : decode b_S_goOn 1 = .ok (.aload_n 1, 1) := by decide +kernel
theorem d_S_goOn_2 : decode b_S_goOn 2 = .ok (.invokevirtual 64, 3) := by decide +kernel
theorem d_S_goOn_5 : decode b_S_goOn 5 = .ok (.aload_n 1, 1) := by decide +kernel
theorem d_S_goOn_6 : decode b_S_goOn 6 = .ok (.invokevirtual 68, 3) := by decide +kernel
theorem d_S_goOn_9 : decode b_S_goOn 9 = .ok (.iconst (-1), 1) := by decide +kernel
theorem d_S_goOn_10 : decode b_S_goOn 10 = .ok (.if_icmp .ne 5, 3) := by decide +kernel
theorem d_S_goOn_13 : decode b_S_goOn 13 = .ok (.iconst 1, 1) := by decide +kernel
theorem d_S_goOn_14 : decode b_S_goOn 14 = .ok (.ireturn, 1) := by decide +kernel
theorem d_S_goOn_15 : decode b_S_goOn 15 = .ok (.iload_n 2, 1) := by decide +kernel
theorem d_S_goOn_16 : decode b_S_goOn 16 = .ok (.bipush 12, 2) := by decide +kernel
theorem d_S_goOn_18 : decode b_S_goOn 18 = .ok (.if_icmp .lt 5, 3) := by decide +kernel
theorem d_S_goOn_21 : decode b_S_goOn 21 = .ok (.iconst 0, 1) := by decide +kernel
theorem d_S_goOn_22 : decode b_S_goOn 22 = .ok (.ireturn, 1) := by decide +kernel
theorem d_S_goOn_23 : decode b_S_goOn 23 = .ok (.iconst 0, 1) := by decide +kernel
theorem d_S_goOn_24 : decode b_S_goOn 24 = .ok (.istore 4, 2) := by decide +kernel
theorem d_S_goOn_26 : decode b_S_goOn 26 = .ok (.iload 4, 2) := by decide +kernel
theorem d_S_goOn_28 : decode b_S_goOn 28 = .ok (.aload_n 1, 1) := by decide +kernel
theorem d_S_goOn_29 : decode b_S_goOn 29 = .ok (.getfield 71, 3) := by decide +kernel
theorem d_S_goOn_32 : decode b_S_goOn 32 = .ok (.if_icmp .ge 23, 3) := by decide +kernel
theorem d_S_goOn_35 : decode b_S_goOn 35 = .ok (.aload_n 0, 1) := by decide +kernel
theorem d_S_goOn_36 : decode b_S_goOn 36 = .ok (.aload_n 1, 1) := by decide +kernel
theorem d_S_goOn_37 : decode b_S_goOn 37 = .ok (.iload 4, 2) := by decide +kernel
theorem d_S_goOn_39 : decode b_S_goOn 39 = .ok (.iload_n 2, 1) := by decide +kernel
theorem d_S_goOn_40 : decode b_S_goOn 40 = .ok (.iload_n 3, 1) := by decide +kernel
theorem d_S_goOn_41 : decode b_S_goOn 41 = .ok (.invokevirtual 74, 3) := by decide +kernel
theorem d_S_goOn_44 : decode b_S_goOn 44 = .ok (.ifCond .eq 5, 3) := by decide +kernel
theorem d_S_goOn_47 : decode b_S_goOn 47 = .ok (.iconst 1, 1) := by decide +kernel
theorem d_S_goOn_48 : decode b_S_goOn 48 = .ok (.ireturn, 1) := by decide +kernel
theorem d_S_goOn_49 : decode b_S_goOn 49 = .ok (.iinc 4 1, 3) := by decide +kernel
theorem d_S_goOn_52 : decode b_S_goOn 52 = .ok (.goto (-26), 3) := by decide +kernel
theorem d_S_goOn_55 : decode b_S_goOn 55 = .ok (.iconst 0, 1) := by decide +kernel
theorem d_S_goOn_56 : decode b_S_goOn 56 = .ok (.ireturn, 1) := by decide +kernel
theorem d_S_tryFrom_0 : decode b_S_tryFrom 0 = .ok (.aload_n 1, 1) := by decide +kernel
theorem d_S_tryFrom_1 : decode b_S_tryFrom 1 = .ok (.iload_n 2, 1) := by decide +kernel
theorem d_S_tryFrom_2 : decode b_S_tryFrom 2 = .ok (.invokevirtual 78, 3) := by decide +kernel
theorem d_S_tryFrom_5 : decode b_S_tryFrom 5 = .ok (.istore 5, 2) := by decide +kernel
theorem d_S_tryFrom_7 : decode b_S_tryFrom 7 = .ok (.iload 5, 2) := by decide +kernel
theorem d_S_tryFrom_9 : decode b_S_tryFrom 9 = .ok (.iconst (-1), 1) := by decide +kernel
theorem d_S_tryFrom_10 : decode b_S_tryFrom 10 = .ok (.if_icmp .ne 5, 3) := by decide +kernel
theorem d_S_tryFrom_13 : decode b_S_tryFrom 13 = .ok (.iconst 0, 1) := by decide +kernel
theorem d_S_tryFrom_14 : decode b_S_tryFrom 14 = .ok (.ireturn, 1) := by decide +kernel
theorem d_S_tryFrom_15 : decode b_S_tryFrom 15 = .ok (.iload 4, 2) := by decide +kernel
theorem d_S_tryFrom_17 : decode b_S_tryFrom 17 = .ok (.aload_n 1, 1) := by decide +kernel
theorem d_S_tryFrom_18 : decode b_S_tryFrom 18 = .ok (.iload 5, 2) := by decide +kernel
theorem d_S_tryFrom_20 : decode b_S_tryFrom 20 = .ok (.invokevirtual 82, 3) := by decide +kernel
theorem d_S_tryFrom_23 : decode b_S_tryFrom 23 = .ok (.ifCond .eq 7, 3) := by decide +kernel
theorem d_S_tryFrom_26 : decode b_S_tryFrom 26 = .ok (.iconst 1, 1) := by decide +kernel
theorem d_S_tryFrom_27 : decode b_S_tryFrom 27 = .ok (.goto 4, 3) := by decide +kernel
