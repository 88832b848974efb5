theorem d_S_tryFrom_30 : decode b_S_tryFrom 30 = .ok (.iconst 0, 1) := by decide +kernel
theorem d_S_tryFrom_31 : decode b_S_tryFrom 31 = .ok (.isub, 1) := by decide +kernel
theorem d_S_tryFrom_32 : decode b_S_tryFrom 32 = .ok (.istore 6, 2) := by decide +kernel
theorem d_S_tryFrom_34 : decode b_S_tryFrom 34 = .ok (.iconst 0, 1) := by decide +kernel
theorem d_S_tryFrom_35 : decode b_S_tryFrom 35 = .ok (.istore 7, 2) := by decide +kernel
theorem d_S_tryFrom_37 : decode b_S_tryFrom 37 = .ok (.iload 7, 2) := by decide +kernel
theorem d_S_tryFrom_39 : decode b_S_tryFrom 39 = .ok (.aload_n 1, 1) := by decide +kernel
theorem d_S_tryFrom_40 : decode b_S_tryFrom 40 = .ok (.getfield 71, 3) := by decide +kernel
theorem d_S_tryFrom_43 : decode b_S_tryFrom 43 = .ok (.if_icmp .ge 118, 3) := by decide +kernel
theorem d_S_tryFrom_46 : decode b_S_tryFrom 46 = .ok (.aload_n 0, 1) := by decide +kernel
theorem d_S_tryFrom_47 : decode b_S_tryFrom 47 = .ok (.getfield 41, 3) := by decide +kernel
theorem d_S_tryFrom_50 : decode b_S_tryFrom 50 = .ok (.ifCond .ne 111, 3) := by decide +kernel
theorem d_S_tryFrom_53 : decode b_S_tryFrom 53 = .ok (.iload 7, 2) := by decide +kernel
theorem d_S_tryFrom_55 : decode b_S_tryFrom 55 = .ok (.iload_n 2, 1) := by decide +kernel
theorem d_S_tryFrom_56 : decode b_S_tryFrom 56 = .ok (.if_icmp .eq 99, 3) := by decide +kernel
theorem d_S_tryFrom_59 : decode b_S_tryFrom 59 = .ok (.aload_n 1, 1) := by decide +kernel
theorem d_S_tryFrom_60 : decode b_S_tryFrom 60 = .ok (.iload 7, 2) := by decide +kernel
theorem d_S_tryFrom_62 : decode b_S_tryFrom 62 = .ok (.aload_n 1, 1) := by decide +kernel
theorem d_S_tryFrom_63 : decode b_S_tryFrom 63 = .ok (.getfield 86, 3) := by decide +kernel
theorem d_S_tryFrom_66 : decode b_S_tryFrom 66 = .ok (.iload 5, 2) := by decide +kernel
theorem d_S_tryFrom_68 : decode b_S_tryFrom 68 = .ok (.iaload, 1) := by decide +kernel
theorem d_S_tryFrom_69 : decode b_S_tryFrom 69 = .ok (.invokevirtual 89, 3) := by decide +kernel
theorem d_S_tryFrom_72 : decode b_S_tryFrom 72 = .ok (.ifCond .ne 6, 3) := by decide +kernel
theorem d_S_tryFrom_75 : decode b_S_tryFrom 75 = .ok (.goto 80, 3) := by decide +kernel
theorem d_S_tryFrom_78 : decode b_S_tryFrom 78 = .ok (.aload_n 0, 1) := by decide +kernel
theorem d_S_tryFrom_79 : decode b_S_tryFrom 79 = .ok (.getfield 38, 3) := by decide +kernel
theorem d_S_tryFrom_82 : decode b_S_tryFrom 82 = .ok (.ifCond .ne 10, 3) := by decide +kernel
theorem d_S_tryFrom_85 : decode b_S_tryFrom 85 = .ok (.aload_n 0, 1) := by decide +kernel
theorem d_S_tryFrom_86 : decode b_S_tryFrom 86 = .ok (.iconst 1, 1) := by decide +kernel
theorem d_S_tryFrom_87 : decode b_S_tryFrom 87 = .ok (.putfield 41, 3) := by decide +kernel
theorem d_S_tryFrom_90 : decode b_S_tryFrom 90 = .ok (.iconst 0, 1) := by decide +kernel
theorem d_S_tryFrom_91 : decode b_S_tryFrom 91 = .ok (.ireturn, 1) := by decide +kernel
theorem d_S_tryFrom_92 : decode b_S_tryFrom 92 = .ok (.aload_n 0, 1) := by decide +kernel
theorem d_S_tryFrom_93 : decode b_S_tryFrom 93 = .ok (.dup, 1) := by decide +kernel
theorem d_S_tryFrom_94 : decode b_S_tryFrom 94 = .ok (.getfield 38, 3) := by decide +kernel
theorem d_S_tryFrom_97 : decode b_S_tryFrom 97 = .ok (.iconst 1, 1) := by decide +kernel
theorem d_S_tryFrom_98 : decode b_S_tryFrom 98 = .ok (.isub, 1) := by decide +kernel
theorem d_S_tryFrom_99 : decode b_S_tryFrom 99 = .ok (.putfield 38, 3) := by decide +kernel
theorem d_S_tryFrom_102 : decode b_S_tryFrom 102 = .ok (.iload 6, 2) := by decide +kernel
theorem d_S_tryFrom_104 : decode b_S_tryFrom 104 = .ok (.aload_n 1, 1) := by decide +kernel
theorem d_S_tryFrom_105 : decode b_S_tryFrom 105 = .ok (.iload 5, 2) := by decide +kernel
theorem d_S_tryFrom_107 : decode b_S_tryFrom 107 = .ok (.iload 7, 2) := by decide +kernel
theorem d_S_tryFrom_109 : decode b_S_tryFrom 109 = .ok (.invokevirtual 93, 3) := by decide +kernel
theorem d_S_tryFrom_112 : decode b_S_tryFrom 112 = .ok (.ifCond .eq 7, 3) := by decide +kernel
theorem d_S_tryFrom_115 : decode b_S_tryFrom 115 = .ok (.iconst 1, 1) := by decide +kernel
theorem d_S_tryFrom_116 : decode b_S_tryFrom 116 = .ok (.goto 4, 3) := by decide +kernel
theorem d_S_tryFrom_119 : decode b_S_tryFrom 119 = .ok (.iconst 0, 1) := by decide +kernel
theorem d_S_tryFrom_120 : decode b_S_tryFrom 120 = .ok (.iadd, 1) := by decide +kernel
theorem d_S_tryFrom_121 : decode b_S_tryFrom 121 = .ok (.istore 8, 2) := by decide +kernel
theorem d_S_tryFrom_123 : decode b_S_tryFrom 123 = .ok (.iload_n 3, 1) := by decide +kernel
theorem d_S_tryFrom_124 : decode b_S_tryFrom 124 = .ok (.iconst 1, 1) := by decide +kernel
theorem d_S_tryFrom_125 : decode b_S_tryFrom 125 = .ok (.iadd, 1) := by decide +kernel
theorem d_S_tryFrom_126 : decode b_S_tryFrom 126 = .ok (.iload 8, 2) := by decide +kernel
theorem d_S_tryFrom_128 : decode b_S_tryFrom 128 = .ok (.iadd, 1) := by decide +kernel
theorem d_S_tryFrom_129 : decode b_S_tryFrom 129 = .ok (.aload_n 0, 1) := by decide +kernel
theorem d_S_tryFrom_130 : decode b_S_tryFrom 130 = .ok (.getfield 50, 3) := by decide +kernel
theorem d_S_tryFrom_133 : decode b_S_tryFrom 133 = .ok (.if_icmp .gt 22, 3) := by decide +kernel
theorem d_S_tryFrom_136 : decode b_S_tryFrom 136 = .ok (.aload_n 0, 1) := by decide +kernel
theorem d_S_tryFrom_137 : decode b_S_tryFrom 137 = .ok (.aload_n 1, 1) := by decide +kernel
theorem d_S_tryFrom_138 : decode b_S_tryFrom 138 = .ok (.iload 5, 2) := by decide +kernel
theorem d_S_tryFrom_140 : decode b_S_tryFrom 140 = .ok (.iload 7, 2) := by decide +kernel
theorem d_S_tryFrom_142 : decode b_S_tryFrom 142 = .ok (.iload_n 3, 1) := by decide +kernel
theorem d_S_tryFrom_143 : decode b_S_tryFrom 143 = .ok (.iconst 1, 1) := by decide +kernel
theorem d_S_tryFrom_144 : decode b_S_tryFrom 144 = .ok (.iadd, 1) := by decide +kernel
theorem d_S_tryFrom_145 : decode b_S_tryFrom 145 = .ok (.iload 8, 2) := by decide +kernel
theorem d_S_tryFrom_147 : decode b_S_tryFrom 147 = .ok (.invokevirtual 96, 3) := by decide +kernel
theorem d_S_tryFrom_150 : decode b_S_tryFrom 150 = .ok (.ifCond .eq 5, 3) := by decide +kernel
theorem d_S_tryFrom_153 : decode b_S_tryFrom 153 = .ok (.iconst 1, 1) := by decide +kernel
theorem d_S_tryFrom_154 : decode b_S_tryFrom 154 = .ok (.ireturn, 1) := by decide +kernel
theorem d_S_tryFrom_155 : decode b_S_tryFrom 155 = .ok (.iinc 7 1, 3) := by decide +kernel
theorem d_S_tryFrom_158 : decode b_S_tryFrom 158 = .ok (.goto (-121), 3) := by decide +kernel
theorem d_S_tryFrom_161 : decode b_S_tryFrom 161 = .ok (.iconst 0, 1) := by decide +kernel
theorem d_S_tryFrom_162 : decode b_S_tryFrom 162 = .ok (.ireturn, 1) := by decide +kernel
theorem d_S_tryOne_0 : decode b_S_tryOne 0 = .ok (.aload_n 0, 1) := by decide +kernel
theorem d_S_tryOne_1 : decode b_S_tryOne 1 = .ok (.getfield 31, 3) := by decide +kernel
theorem d_S_tryOne_4 : decode b_S_tryOne 4 = .ok (.istore 6, 2) := by decide +kernel
theorem d_S_tryOne_6 : decode b_S_tryOne 6 = .ok (.aload_n 0, 1) := by decide +kernel
theorem d_S_tryOne_7 : decode b_S_tryOne 7 = .ok (.iload_n 2, 1) := by decide +kernel
theorem d_S_tryOne_8 : decode b_S_tryOne 8 = .ok (.aload_n 1, 1) := by decide +kernel
theorem d_S_tryOne_9 : decode b_S_tryOne 9 = .ok (.getfield 100, 3) := by decide +kernel
theorem d_S_tryOne_12 : decode b_S_tryOne 12 = .ok (.iload_n 2, 1) := by decide +kernel
theorem d_S_tryOne_13 : decode b_S_tryOne 13 = .ok (.iaload, 1) := by decide +kernel
theorem d_S_tryOne_14 : decode b_S_tryOne 14 = .ok (.iload_n 3, 1) := by decide +kernel
theorem d_S_tryOne_15 : decode b_S_tryOne 15 = .ok (.invokevirtual 103, 3) := by decide +kernel
theorem d_S_tryOne_18 : decode b_S_tryOne 18 = .ok (.aload_n 1, 1) := by decide +kernel
theorem d_S_tryOne_19 : decode b_S_tryOne 19 = .ok (.iload_n 2, 1) := by decide +kernel
theorem d_S_tryOne_20 : decode b_S_tryOne 20 = .ok (.iload_n 3, 1) := by decide +kernel
theorem d_S_tryOne_21 : decode b_S_tryOne 21 = .ok (.invokevirtual 107, 3) := by decide +kernel
theorem d_S_tryOne_24 : decode b_S_tryOne 24 = .ok (.aload_n 0, 1) := by decide +kernel
theorem d_S_tryOne_25 : decode b_S_tryOne 25 = .ok (.aload_n 1, 1) := by decide +kernel
theorem d_S_tryOne_26 : decode b_S_tryOne 26 = .ok (.iload 4, 2) := by decide +kernel
theorem d_S_tryOne_28 : decode b_S_tryOne 28 = .ok (.iload 5, 2) := by decide +kernel
theorem d_S_tryOne_30 : decode b_S_tryOne 30 = .ok (.invokevirtual 53, 3) := by decide +kernel
theorem d_S_tryOne_33 : decode b_S_tryOne 33 = .ok (.ifCond .eq 5, 3) := by decide +kernel
theorem d_S_tryOne_36 : decode b_S_tryOne 36 = .ok (.iconst 1, 1) := by decide +kernel
theorem d_S_tryOne_37 : decode b_S_tryOne 37 = .ok (.ireturn, 1) := by decide +kernel
theorem d_S_tryOne_38 : decode b_S_tryOne 38 = .ok (.aload_n 0, 1) := by decide +kernel
theorem d_S_tryOne_39 : decode b_S_tryOne 39 = .ok (.aload_n 1, 1) := by decide +kernel
theorem d_S_tryOne_40 : decode b_S_tryOne 40 = .ok (.iload 6, 2) := by decide +kernel
theorem d_S_tryOne_42 : decode b_S_tryOne 42 = .ok (.invokevirtual 57, 3) := by decide +kernel
theorem d_S_tryOne_45 : decode b_S_tryOne 45 = .ok (.iconst 0, 1) := by decide +kernel
theorem d_S_tryOne_46 : decode b_S_tryOne 46 = .ok (.ireturn, 1) := by decide +kernel
theorem d_S_letLeave_0 : decode b_S_letLeave 0 = .ok (.iconst 0, 1) := by decide +kernel
theorem d_S_letLeave_1 : decode b_S_letLeave 1 = .ok (.istore_n 2, 1) := by decide +kernel
theorem d_S_letLeave_2 : decode b_S_letLeave 2 = .ok (.iload_n 2, 1) := by decide +kernel
theorem d_S_letLeave_3 : decode b_S_letLeave 3 = .ok (.bipush 10, 2) := by decide +kernel
theorem d_S_letLeave_5 : decode b_S_letLeave 5 = .ok (.if_icmp .ge 45, 3) := by decide +kernel
theorem d_S_letLeave_8 : decode b_S_letLeave 8 = .ok (.aload_n 1, 1) := by decide +kernel
theorem d_S_letLeave_9 : decode b_S_letLeave 9 = .ok (.invokevirtual 68, 3) := by decide +kernel
theorem d_S_letLeave_12 : decode b_S_letLeave 12 = .ok (.istore_n 3, 1) := by decide +kernel
theorem d_S_letLeave_13 : decode b_S_letLeave 13 = .ok (.iload_n 3, 1) := by decide +kernel
theorem d_S_letLeave_14 : decode b_S_letLeave 14 = .ok (.iconst (-1), 1) := by decide +kernel
theorem d_S_letLeave_15 : decode b_S_letLeave 15 = .ok (.if_icmp .eq 11, 3) := by decide +kernel
theorem d_S_letLeave_18 : decode b_S_letLeave 18 = .ok (.aload_n 1, 1) := by decide +kernel
theorem d_S_letLeave_19 : decode b_S_letLeave 19 = .ok (.iload_n 3, 1) := by decide +kernel
theorem d_S_letLeave_20 : decode b_S_letLeave 20 = .ok (.invokevirtual 111, 3) := by decide +kernel
theorem d_S_letLeave_23 : decode b_S_letLeave 23 = .ok (.ifCond .ne 4, 3) := by decide +kernel
theorem d_S_letLeave_26 : decode b_S_letLeave 26 = .ok (.return_, 1) := by decide +kernel
theorem d_S_letLeave_27 : decode b_S_letLeave 27 = .ok (.aload_n 0, 1) := by decide +kernel
theorem d_S_letLeave_28 : decode b_S_letLeave 28 = .ok (.iload_n 3, 1) := by decide +kernel
theorem d_S_letLeave_29 : decode b_S_letLeave 29 = .ok (.aload_n 1, 1) := by decide +kernel
theorem d_S_letLeave_30 : decode b_S_letLeave 30 = .ok (.getfield 100, 3) := by decide +kernel
theorem d_S_letLeave_33 : decode b_S_letLeave 33 = .ok (.iload_n 3, 1) := by decide +kernel
theorem d_S_letLeave_34 : decode b_S_letLeave 34 = .ok (.iaload, 1) := by decide +kernel
theorem d_S_letLeave_35 : decode b_S_letLeave 35 = .ok (.iconst (-1), 1) := by decide +kernel
theorem d_S_letLeave_36 : decode b_S_letLeave 36 = .ok (.invokevirtual 103, 3) := by decide +kernel
theorem d_S_letLeave_39 : decode b_S_letLeave 39 = .ok (.aload_n 1, 1) := by decide +kernel
theorem d_S_letLeave_40 : decode b_S_letLeave 40 = .ok (.iload_n 3, 1) := by decide +kernel
theorem d_S_letLeave_41 : decode b_S_letLeave 41 = .ok (.invokevirtual 114, 3) := by decide +kernel
theorem d_S_letLeave_44 : decode b_S_letLeave 44 = .ok (.iinc 2 1, 3) := by decide +kernel
theorem d_S_letLeave_47 : decode b_S_letLeave 47 = .ok (.goto (-45), 3) := by decide +kernel
theorem d_S_letLeave_50 : decode b_S_letLeave 50 = .ok (.return_, 1) := by decide +kernel
theorem d_S_note_0 : decode b_S_note 0 = .ok (.aload_n 0, 1) := by decide +kernel
theorem d_S_note_1 : decode b_S_note 1 = .ok (.getfield 31, 3) := by decide +kernel
theorem d_S_note_4 : decode b_S_note 4 = .ok (.bipush 22, 2) := by decide +kernel
theorem d_S_note_6 : decode b_S_note 6 = .ok (.if_icmp .ge 43, 3) := by decide +kernel
theorem d_S_note_9 : decode b_S_note 9 = .ok (.aload_n 0, 1) := by decide +kernel
theorem d_S_note_10 : decode b_S_note 10 = .ok (.getfield 11, 3) := by decide +kernel
theorem d_S_note_13 : decode b_S_note 13 = .ok (.aload_n 0, 1) := by decide +kernel
theorem d_S_note_14 : decode b_S_note 14 = .ok (.getfield 31, 3) := by decide +kernel
theorem d_S_note_17 : decode b_S_note 17 = .ok (.iload_n 1, 1) := by decide +kernel
theorem d_S_note_18 : decode b_S_note 18 = .ok (.iastore, 1) := by decide +kernel
theorem d_S_note_19 : decode b_S_note 19 = .ok (.aload_n 0, 1) := by decide +kernel
theorem d_S_note_20 : decode b_S_note 20 = .ok (.getfield 15, 3) := by decide +kernel
theorem d_S_note_23 : decode b_S_note 23 = .ok (.aload_n 0, 1) := by decide +kernel
theorem d_S_note_24 : decode b_S_note 24 = .ok (.getfield 31, 3) := by decide +kernel
theorem d_S_note_27 : decode b_S_note 27 = .ok (.iload_n 2, 1) := by decide +kernel
theorem d_S_note_28 : decode b_S_note 28 = .ok (.iastore, 1) := by decide +kernel
theorem d_S_note_29 : decode b_S_note 29 = .ok (.aload_n 0, 1) := by decide +kernel
theorem d_S_note_30 : decode b_S_note 30 = .ok (.getfield 18, 3) := by decide +kernel
theorem d_S_note_33 : decode b_S_note 33 = .ok (.aload_n 0, 1) := by decide +kernel
theorem d_S_note_34 : decode b_S_note 34 = .ok (.getfield 31, 3) := by decide +kernel
theorem d_S_note_37 : decode b_S_note 37 = .ok (.iload_n 3, 1) := by decide +kernel
theorem d_S_note_38 : decode b_S_note 38 = .ok (.iastore, 1) := by decide +kernel
theorem d_S_note_39 : decode b_S_note 39 = .ok (.aload_n 0, 1) := by decide +kernel
theorem d_S_note_40 : decode b_S_note 40 = .ok (.dup, 1) := by decide +kernel
theorem d_S_note_41 : decode b_S_note 41 = .ok (.getfield 31, 3) := by decide +kernel
theorem d_S_note_44 : decode b_S_note 44 = .ok (.iconst 1, 1) := by decide +kernel
theorem d_S_note_45 : decode b_S_note 45 = .ok (.iadd, 1) := by decide +kernel
theorem d_S_note_46 : decode b_S_note 46 = .ok (.putfield 31, 3) := by decide +kernel
theorem d_S_note_49 : decode b_S_note 49 = .ok (.return_, 1) := by decide +kernel
theorem d_S_takeBack_0 : decode b_S_takeBack 0 = .ok (.aload_n 0, 1) := by decide +kernel
theorem d_S_takeBack_1 : decode b_S_takeBack 1 = .ok (.getfield 31, 3) := by decide +kernel
theorem d_S_takeBack_4 : decode b_S_takeBack 4 = .ok (.iload_n 2, 1) := by decide +kernel
theorem d_S_takeBack_5 : decode b_S_takeBack 5 = .ok (.if_icmp .le 64, 3) := by decide +kernel
theorem d_S_takeBack_8 : decode b_S_takeBack 8 = .ok (.aload_n 0, 1) := by decide +kernel
theorem d_S_takeBack_9 : decode b_S_takeBack 9 = .ok (.dup, 1) := by decide +kernel
theorem d_S_takeBack_10 : decode b_S_takeBack 10 = .ok (.getfield 31, 3) := by decide +kernel
theorem d_S_takeBack_13 : decode b_S_takeBack 13 = .ok (.iconst 1, 1) := by decide +kernel
theorem d_S_takeBack_14 : decode b_S_takeBack 14 = .ok (.isub, 1) := by decide +kernel
theorem d_S_takeBack_15 : decode b_S_takeBack 15 = .ok (.putfield 31, 3) := by decide +kernel
theorem d_S_takeBack_18 : decode b_S_takeBack 18 = .ok (.aload_n 0, 1) := by decide +kernel
theorem d_S_takeBack_19 : decode b_S_takeBack 19 = .ok (.getfield 18, 3) := by decide +kernel
theorem d_S_takeBack_22 : decode b_S_takeBack 22 = .ok (.aload_n 0, 1) := by decide +kernel
theorem d_S_takeBack_23 : decode b_S_takeBack 23 = .ok (.getfield 31, 3) := by decide +kernel
theorem d_S_takeBack_26 : decode b_S_takeBack 26 = .ok (.iaload, 1) := by decide +kernel
theorem d_S_takeBack_27 : decode b_S_takeBack 27 = .ok (.iconst (-1), 1) := by decide +kernel
theorem d_S_takeBack_28 : decode b_S_takeBack 28 = .ok (.if_icmp .eq 16, 3) := by decide +kernel
theorem d_S_takeBack_31 : decode b_S_takeBack 31 = .ok (.aload_n 1, 1) := by decide +kernel
theorem d_S_takeBack_32 : decode b_S_takeBack 32 = .ok (.aload_n 0, 1) := by decide +kernel
theorem d_S_takeBack_33 : decode b_S_takeBack 33 = .ok (.getfield 11, 3) := by decide +kernel
theorem d_S_takeBack_36 : decode b_S_takeBack 36 = .ok (.aload_n 0, 1) := by decide +kernel
theorem d_S_takeBack_37 : decode b_S_takeBack 37 = .ok (.getfield 31, 3) := by decide +kernel
theorem d_S_takeBack_40 : decode b_S_takeBack 40 = .ok (.iaload, 1) := by decide +kernel
theorem d_S_takeBack_41 : decode b_S_takeBack 41 = .ok (.invokevirtual 114, 3) := by decide +kernel
theorem d_S_takeBack_44 : decode b_S_takeBack 44 = .ok (.aload_n 1, 1) := by decide +kernel
theorem d_S_takeBack_45 : decode b_S_takeBack 45 = .ok (.aload_n 0, 1) := by decide +kernel
theorem d_S_takeBack_46 : decode b_S_takeBack 46 = .ok (.getfield 11, 3) := by decide +kernel
theorem d_S_takeBack_49 : decode b_S_takeBack 49 = .ok (.aload_n 0, 1) := by decide +kernel
theorem d_S_takeBack_50 : decode b_S_takeBack 50 = .ok (.getfield 31, 3) := by decide +kernel
theorem d_S_takeBack_53 : decode b_S_takeBack 53 = .ok (.iaload, 1) := by decide +kernel
theorem d_S_takeBack_54 : decode b_S_takeBack 54 = .ok (.aload_n 0, 1) := by decide +kernel
theorem d_S_takeBack_55 : decode b_S_takeBack 55 = .ok (.getfield 15, 3) := by decide +kernel
theorem d_S_takeBack_58 : decode b_S_takeBack 58 = .ok (.aload_n 0, 1) := by decide +kernel
theorem d_S_takeBack_59 : decode b_S_takeBack 59 = .ok (.getfield 31, 3) := by decide +kernel
theorem d_S_takeBack_62 : decode b_S_takeBack 62 = .ok (.iaload, 1) := by decide +kernel
theorem d_S_takeBack_63 : decode b_S_takeBack 63 = .ok (.invokevirtual 118, 3) := by decide +kernel
theorem d_S_takeBack_66 : decode b_S_takeBack 66 = .ok (.goto (-66), 3) := by decide +kernel
theorem d_S_takeBack_69 : decode b_S_takeBack 69 = .ok (.return_, 1) := by decide +kernel
theorem d_S_doMoves_0 : decode b_S_doMoves 0 = .ok (.iconst 0, 1) := by decide +kernel
theorem d_S_doMoves_1 : decode b_S_doMoves 1 = .ok (.istore_n 3, 1) := by decide +kernel
theorem d_S_doMoves_2 : decode b_S_doMoves 2 = .ok (.iload_n 3, 1) := by decide +kernel
theorem d_S_doMoves_3 : decode b_S_doMoves 3 = .ok (.iload_n 2, 1) := by decide +kernel
theorem d_S_doMoves_4 : decode b_S_doMoves 4 = .ok (.if_icmp .ge 48, 3) := by decide +kernel
theorem d_S_doMoves_7 : decode b_S_doMoves 7 = .ok (.aload_n 0, 1) := by decide +kernel
theorem d_S_doMoves_8 : decode b_S_doMoves 8 = .ok (.getfield 18, 3) := by decide +kernel
theorem d_S_doMoves_11 : decode b_S_doMoves 11 = .ok (.iload_n 3, 1) := by decide +kernel
theorem d_S_doMoves_12 : decode b_S_doMoves 12 = .ok (.iaload, 1) := by decide +kernel
theorem d_S_doMoves_13 : decode b_S_doMoves 13 = .ok (.iconst (-1), 1) := by decide +kernel
theorem d_S_doMoves_14 : decode b_S_doMoves 14 = .ok (.if_icmp .ne 16, 3) := by decide +kernel
theorem d_S_doMoves_17 : decode b_S_doMoves 17 = .ok (.aload_n 1, 1) := by decide +kernel
theorem d_S_doMoves_18 : decode b_S_doMoves 18 = .ok (.aload_n 0, 1) := by decide +kernel
theorem d_S_doMoves_19 : decode b_S_doMoves 19 = .ok (.getfield 11, 3) := by decide +kernel
theorem d_S_doMoves_22 : decode b_S_doMoves 22 = .ok (.iload_n 3, 1) := by decide +kernel
theorem d_S_doMoves_23 : decode b_S_doMoves 23 = .ok (.iaload, 1) := by decide +kernel
theorem d_S_doMoves_24 : decode b_S_doMoves 24 = .ok (.invokevirtual 114, 3) := by decide +kernel
theorem d_S_doMoves_27 : decode b_S_doMoves 27 = .ok (.goto 19, 3) := by decide +kernel
theorem d_S_doMoves_30 : decode b_S_doMoves 30 = .ok (.aload_n 1, 1) := by decide +kernel
theorem d_S_doMoves_31 : decode b_S_doMoves 31 = .ok (.aload_n 0, 1) := by decide +kernel
theorem d_S_doMoves_32 : decode b_S_doMoves 32 = .ok (.getfield 11, 3) := by decide +kernel
theorem d_S_doMoves_35 : decode b_S_doMoves 35 = .ok (.iload_n 3, 1) := by decide +kernel
theorem d_S_doMoves_36 : decode b_S_doMoves 36 = .ok (.iaload, 1) := by decide +kernel
theorem d_S_doMoves_37 : decode b_S_doMoves 37 = .ok (.aload_n 0, 1) := by decide +kernel
theorem d_S_doMoves_38 : decode b_S_doMoves 38 = .ok (.getfield 18, 3) := by decide +kernel
theorem d_S_doMoves_41 : decode b_S_doMoves 41 = .ok (.iload_n 3, 1) := by decide +kernel
theorem d_S_doMoves_42 : decode b_S_doMoves 42 = .ok (.iaload, 1) := by decide +kernel
theorem d_S_doMoves_43 : decode b_S_doMoves 43 = .ok (.invokevirtual 107, 3) := by decide +kernel
theorem d_S_doMoves_46 : decode b_S_doMoves 46 = .ok (.iinc 3 1, 3) := by decide +kernel
theorem d_S_doMoves_49 : decode b_S_doMoves 49 = .ok (.goto (-47), 3) := by decide +kernel
theorem d_S_doMoves_52 : decode b_S_doMoves 52 = .ok (.return_, 1) := by decide +kernel
theorem d_S_countRelifts_0 : decode b_S_countRelifts 0 = .ok (.iconst 0, 1) := by decide +kernel
theorem d_S_countRelifts_1 : decode b_S_countRelifts 1 = .ok (.istore_n 1, 1) := by decide +kernel
theorem d_S_countRelifts_2 : decode b_S_countRelifts 2 = .ok (.iconst 0, 1) := by decide +kernel
theorem d_S_countRelifts_3 : decode b_S_countRelifts 3 = .ok (.istore_n 2, 1) := by decide +kernel
theorem d_S_countRelifts_4 : decode b_S_countRelifts 4 = .ok (.iload_n 2, 1) := by decide +kernel
theorem d_S_countRelifts_5 : decode b_S_countRelifts 5 = .ok (.aload_n 0, 1) := by decide +kernel
theorem d_S_countRelifts_6 : decode b_S_countRelifts 6 = .ok (.getfield 31, 3) := by decide +kernel
theorem d_S_countRelifts_9 : decode b_S_countRelifts 9 = .ok (.if_icmp .ge 22, 3) := by decide +kernel
theorem d_S_countRelifts_12 : decode b_S_countRelifts 12 = .ok (.aload_n 0, 1) := by decide +kernel
theorem d_S_countRelifts_13 : decode b_S_countRelifts 13 = .ok (.getfield 18, 3) := by decide +kernel
theorem d_S_countRelifts_16 : decode b_S_countRelifts 16 = .ok (.iload_n 2, 1) := by decide +kernel
theorem d_S_countRelifts_17 : decode b_S_countRelifts 17 = .ok (.iaload, 1) := by decide +kernel
theorem d_S_countRelifts_18 : decode b_S_countRelifts 18 = .ok (.iconst (-1), 1) := by decide +kernel
theorem d_S_countRelifts_19 : decode b_S_countRelifts 19 = .ok (.if_icmp .eq 6, 3) := by decide +kernel
theorem d_S_countRelifts_22 : decode b_S_countRelifts 22 = .ok (.iinc 1 1, 3) := by decide +kernel
theorem d_S_countRelifts_25 : decode b_S_countRelifts 25 = .ok (.iinc 2 1, 3) := by decide +kernel
theorem d_S_countRelifts_28 : decode b_S_countRelifts 28 = .ok (.goto (-24), 3) := by decide +kernel
theorem d_S_countRelifts_31 : decode b_S_countRelifts 31 = .ok (.iload_n 1, 1) := by decide +kernel
theorem d_S_countRelifts_32 : decode b_S_countRelifts 32 = .ok (.ireturn, 1) := by decide +kernel
theorem d_W_init_0 : decode b_W_init 0 = .ok (.aload_n 0, 1) := by decide +kernel
theorem d_W_init_1 : decode b_W_init 1 = .ok (.invokespecial 3, 3) := by decide +kernel
theorem d_W_init_4 : decode b_W_init 4 = .ok (.aload_n 0, 1) := by decide +kernel
theorem d_W_init_5 : decode b_W_init 5 = .ok (.iconst 4, 1) := by decide +kernel
theorem d_W_init_6 : decode b_W_init 6 = .ok (.newarray .int, 2) := by decide +kernel
theorem d_W_init_8 : decode b_W_init 8 = .ok (.putfield 9, 3) := by decide +kernel
theorem d_W_init_11 : decode b_W_init 11 = .ok (.aload_n 0, 1) := by decide +kernel
theorem d_W_init_12 : decode b_W_init 12 = .ok (.iconst 4, 1) := by decide +kernel
theorem d_W_init_13 : decode b_W_init 13 = .ok (.newarray .int, 2) := by decide +kernel
theorem d_W_init_15 : decode b_W_init 15 = .ok (.putfield 15, 3) := by decide +kernel
theorem d_W_init_18 : decode b_W_init 18 = .ok (.aload_n 0, 1) := by decide +kernel
theorem d_W_init_19 : decode b_W_init 19 = .ok (.bipush 10, 2) := by decide +kernel
theorem d_W_init_21 : decode b_W_init 21 = .ok (.newarray .int, 2) := by decide +kernel
theorem d_W_init_23 : decode b_W_init 23 = .ok (.putfield 18, 3) := by decide +kernel
theorem d_W_init_26 : decode b_W_init 26 = .ok (.aload_n 0, 1) := by decide +kernel
theorem d_W_init_27 : decode b_W_init 27 = .ok (.invokevirtual 21, 3) := by decide +kernel
theorem d_W_init_30 : decode b_W_init 30 = .ok (.return_, 1) := by decide +kernel
theorem d_W_clear_0 : decode b_W_clear 0 = .ok (.aload_n 0, 1) := by decide +kernel
theorem d_W_clear_1 : decode b_W_clear 1 = .ok (.iconst 0, 1) := by decide +kernel
theorem d_W_clear_2 : decode b_W_clear 2 = .ok (.putfield 24, 3) := by decide +kernel
theorem d_W_clear_5 : decode b_W_clear 5 = .ok (.iconst 0, 1) := by decide +kernel
theorem d_W_clear_6 : decode b_W_clear 6 = .ok (.istore_n 1, 1) := by decide +kernel
theorem d_W_clear_7 : decode b_W_clear 7 = .ok (.iload_n 1, 1) := by decide +kernel
theorem d_W_clear_8 : decode b_W_clear 8 = .ok (.bipush 10, 2) := by decide +kernel
theorem d_W_clear_10 : decode b_W_clear 10 = .ok (.if_icmp .ge 16, 3) := by decide +kernel
theorem d_W_clear_13 : decode b_W_clear 13 = .ok (.aload_n 0, 1) := by decide +kernel
theorem d_W_clear_14 : decode b_W_clear 14 = .ok (.getfield 18, 3) := by decide +kernel
theorem d_W_clear_17 : decode b_W_clear 17 = .ok (.iload_n 1, 1) := by decide +kernel
theorem d_W_clear_18 : decode b_W_clear 18 = .ok (.iconst (-1), 1) := by decide +kernel
theorem d_W_clear_19 : decode b_W_clear 19 = .ok (.iastore, 1) := by decide +kernel
theorem d_W_clear_20 : decode b_W_clear 20 = .ok (.iinc 1 1, 3) := by decide +kernel
theorem d_W_clear_23 : decode b_W_clear 23 = .ok (.goto (-16), 3) := by decide +kernel
theorem d_W_clear_26 : decode b_W_clear 26 = .ok (.return_, 1) := by decide +kernel
theorem d_W_add_0 : decode b_W_add 0 = .ok (.aload_n 0, 1) := by decide +kernel
theorem d_W_add_1 : decode b_W_add 1 = .ok (.getfield 24, 3) := by decide +kernel
theorem d_W_add_4 : decode b_W_add 4 = .ok (.istore_n 2, 1) := by decide +kernel
theorem d_W_add_5 : decode b_W_add 5 = .ok (.aload_n 0, 1) := by decide +kernel
theorem d_W_add_6 : decode b_W_add 6 = .ok (.dup, 1) := by decide +kernel
theorem d_W_add_7 : decode b_W_add 7 = .ok (.getfield 24, 3) := by decide +kernel
theorem d_W_add_10 : decode b_W_add 10 = .ok (.iconst 1, 1) := by decide +kernel
theorem d_W_add_11 : decode b_W_add 11 = .ok (.iadd, 1) := by decide +kernel
theorem d_W_add_12 : decode b_W_add 12 = .ok (.putfield 24, 3) := by decide +kernel
theorem d_W_add_15 : decode b_W_add 15 = .ok (.aload_n 0, 1) := by decide +kernel
theorem d_W_add_16 : decode b_W_add 16 = .ok (.getfield 9, 3) := by decide +kernel
theorem d_W_add_19 : decode b_W_add 19 = .ok (.iload_n 2, 1) := by decide +kernel
theorem d_W_add_20 : decode b_W_add 20 = .ok (.iload_n 1, 1) := by decide +kernel
theorem d_W_add_21 : decode b_W_add 21 = .ok (.iastore, 1) := by decide +kernel
theorem d_W_add_22 : decode b_W_add 22 = .ok (.aload_n 0, 1) := by decide +kernel
theorem d_W_add_23 : decode b_W_add 23 = .ok (.getfield 15, 3) := by decide +kernel
theorem d_W_add_26 : decode b_W_add 26 = .ok (.iload_n 2, 1) := by decide +kernel
theorem d_W_add_27 : decode b_W_add 27 = .ok (.iconst 0, 1) := by decide +kernel
theorem d_W_add_28 : decode b_W_add 28 = .ok (.iastore, 1) := by decide +kernel
theorem d_W_add_29 : decode b_W_add 29 = .ok (.iload_n 2, 1) := by decide +kernel
theorem d_W_add_30 : decode b_W_add 30 = .ok (.ireturn, 1) := by decide +kernel
theorem d_W_firstWithRoom_0 : decode b_W_firstWithRoom 0 = .ok (.iconst 0, 1) := by decide +kernel
theorem d_W_firstWithRoom_1 : decode b_W_firstWithRoom 1 = .ok (.istore_n 2, 1) := by decide +kernel
theorem d_W_firstWithRoom_2 : decode b_W_firstWithRoom 2 = .ok (.iload_n 2, 1) := by decide +kernel
theorem d_W_firstWithRoom_3 : decode b_W_firstWithRoom 3 = .ok (.aload_n 0, 1) := by decide +kernel
theorem d_W_firstWithRoom_4 : decode b_W_firstWithRoom 4 = .ok (.getfield 24, 3) := by decide +kernel
theorem d_W_firstWithRoom_7 : decode b_W_firstWithRoom 7 = .ok (.if_icmp .ge 28, 3) := by decide +kernel
theorem d_W_firstWithRoom_10 : decode b_W_firstWithRoom 10 = .ok (.aload_n 0, 1) := by decide +kernel
theorem d_W_firstWithRoom_11 : decode b_W_firstWithRoom 11 = .ok (.getfield 15, 3) := by decide +kernel
theorem d_W_firstWithRoom_14 : decode b_W_firstWithRoom 14 = .ok (.iload_n 2, 1) := by decide +kernel
theorem d_W_firstWithRoom_15 : decode b_W_firstWithRoom 15 = .ok (.iaload, 1) := by decide +kernel
theorem d_W_firstWithRoom_16 : decode b_W_firstWithRoom 16 = .ok (.iload_n 1, 1) := by decide +kernel
theorem d_W_firstWithRoom_17 : decode b_W_firstWithRoom 17 = .ok (.iadd, 1) := by decide +kernel
theorem d_W_firstWithRoom_18 : decode b_W_firstWithRoom 18 = .ok (.aload_n 0, 1) := by decide +kernel
theorem d_W_firstWithRoom_19 : decode b_W_firstWithRoom 19 = .ok (.getfield 9, 3) := by decide +kernel
theorem d_W_firstWithRoom_22 : decode b_W_firstWithRoom 22 = .ok (.iload_n 2, 1) := by decide +kernel
theorem d_W_firstWithRoom_23 : decode b_W_firstWithRoom 23 = .ok (.iaload, 1) := by decide +kernel
theorem d_W_firstWithRoom_24 : decode b_W_firstWithRoom 24 = .ok (.if_icmp .gt 5, 3) := by decide +kernel
theorem d_W_firstWithRoom_27 : decode b_W_firstWithRoom 27 = .ok (.iload_n 2, 1) := by decide +kernel
theorem d_W_firstWithRoom_28 : decode b_W_firstWithRoom 28 = .ok (.ireturn, 1) := by decide +kernel
theorem d_W_firstWithRoom_29 : decode b_W_firstWithRoom 29 = .ok (.iinc 2 1, 3) := by decide +kernel
theorem d_W_firstWithRoom_32 : decode b_W_firstWithRoom 32 = .ok (.goto (-30), 3) := by decide +kernel
theorem d_W_firstWithRoom_35 : decode b_W_firstWithRoom 35 = .ok (.iconst (-1), 1) := by decide +kernel
theorem d_W_firstWithRoom_36 : decode b_W_firstWithRoom 36 = .ok (.ireturn, 1) := by decide +kernel
theorem d_W_fill_0 : decode b_W_fill 0 = .ok (.aload_n 0, 1) := by decide +kernel
theorem d_W_fill_1 : decode b_W_fill 1 = .ok (.getfield 15, 3) := by decide +kernel
theorem d_W_fill_4 : decode b_W_fill 4 = .ok (.iload_n 1, 1) := by decide +kernel
theorem d_W_fill_5 : decode b_W_fill 5 = .ok (.dup2, 1) := by decide +kernel
theorem d_W_fill_6 : decode b_W_fill 6 = .ok (.iaload, 1) := by decide +kernel
theorem d_W_fill_7 : decode b_W_fill 7 = .ok (.iload_n 3, 1) := by decide +kernel
theorem d_W_fill_8 : decode b_W_fill 8 = .ok (.iadd, 1) := by decide +kernel
theorem d_W_fill_9 : decode b_W_fill 9 = .ok (.iastore, 1) := by decide +kernel
theorem d_W_fill_10 : decode b_W_fill 10 = .ok (.aload_n 0, 1) := by decide +kernel
theorem d_W_fill_11 : decode b_W_fill 11 = .ok (.getfield 18, 3) := by decide +kernel
theorem d_W_fill_14 : decode b_W_fill 14 = .ok (.iload_n 2, 1) := by decide +kernel
theorem d_W_fill_15 : decode b_W_fill 15 = .ok (.iload_n 1, 1) := by decide +kernel
theorem d_W_fill_16 : decode b_W_fill 16 = .ok (.iastore, 1) := by decide +kernel
theorem d_W_fill_17 : decode b_W_fill 17 = .ok (.return_, 1) := by decide +kernel
theorem d_Y_init_0 : decode b_Y_init 0 = .ok (.aload_n 0, 1) := by decide +kernel
theorem d_Y_init_1 : decode b_Y_init 1 = .ok (.invokespecial 3, 3) := by decide +kernel
theorem d_Y_init_4 : decode b_Y_init 4 = .ok (.aload_n 0, 1) := by decide +kernel
theorem d_Y_init_5 : decode b_Y_init 5 = .ok (.iconst 4, 1) := by decide +kernel
theorem d_Y_init_6 : decode b_Y_init 6 = .ok (.newarray .int, 2) := by decide +kernel
theorem d_Y_init_8 : decode b_Y_init 8 = .ok (.putfield 9, 3) := by decide +kernel
theorem d_Y_init_11 : decode b_Y_init 11 = .ok (.aload_n 0, 1) := by decide +kernel
theorem d_Y_init_12 : decode b_Y_init 12 = .ok (.bipush 20, 2) := by decide +kernel
theorem d_Y_init_14 : decode b_Y_init 14 = .ok (.newarray .int, 2) := by decide +kernel
theorem d_Y_init_16 : decode b_Y_init 16 = .ok (.putfield 15, 3) := by decide +kernel
theorem d_Y_init_19 : decode b_Y_init 19 = .ok (.aload_n 0, 1) := by decide +kernel
theorem d_Y_init_20 : decode b_Y_init 20 = .ok (.bipush 10, 2) := by decide +kernel
theorem d_Y_init_22 : decode b_Y_init 22 = .ok (.newarray .int, 2) := by decide +kernel
theorem d_Y_init_24 : decode b_Y_init 24 = .ok (.putfield 18, 3) := by decide +kernel
theorem d_Y_init_27 : decode b_Y_init 27 = .ok (.aload_n 0, 1) := by decide +kernel
theorem d_Y_init_28 : decode b_Y_init 28 = .ok (.bipush 10, 2) := by decide +kernel
theorem d_Y_init_30 : decode b_Y_init 30 = .ok (.newarray .int, 2) := by decide +kernel
theorem d_Y_init_32 : decode b_Y_init 32 = .ok (.putfield 21, 3) := by decide +kernel
theorem d_Y_init_35 : decode b_Y_init 35 = .ok (.aload_n 0, 1) := by decide +kernel
theorem d_Y_init_36 : decode b_Y_init 36 = .ok (.bipush 10, 2) := by decide +kernel
theorem d_Y_init_38 : decode b_Y_init 38 = .ok (.newarray .int, 2) := by decide +kernel
theorem d_Y_init_40 : decode b_Y_init 40 = .ok (.putfield 24, 3) := by decide +kernel
theorem d_Y_init_43 : decode b_Y_init 43 = .ok (.aload_n 0, 1) := by decide +kernel
theorem d_Y_init_44 : decode b_Y_init 44 = .ok (.bipush 10, 2) := by decide +kernel
theorem d_Y_init_46 : decode b_Y_init 46 = .ok (.newarray .int, 2) := by decide +kernel
theorem d_Y_init_48 : decode b_Y_init 48 = .ok (.putfield 27, 3) := by decide +kernel
theorem d_Y_init_51 : decode b_Y_init 51 = .ok (.aload_n 0, 1) := by decide +kernel
theorem d_Y_init_52 : decode b_Y_init 52 = .ok (.bipush 10, 2) := by decide +kernel
theorem d_Y_init_54 : decode b_Y_init 54 = .ok (.newarray .int, 2) := by decide +kernel
theorem d_Y_init_56 : decode b_Y_init 56 = .ok (.putfield 30, 3) := by decide +kernel
theorem d_Y_init_59 : decode b_Y_init 59 = .ok (.aload_n 0, 1) := by decide +kernel
theorem d_Y_init_60 : decode b_Y_init 60 = .ok (.iconst 2, 1) := by decide +kernel
theorem d_Y_init_61 : decode b_Y_init 61 = .ok (.iconst 4, 1) := by decide +kernel
theorem d_Y_init_62 : decode b_Y_init 62 = .ok (.invokevirtual 33, 3) := by decide +kernel
theorem d_Y_init_65 : decode b_Y_init 65 = .ok (.return_, 1) := by decide +kernel
theorem d_Y_clear_0 : decode b_Y_clear 0 = .ok (.aload_n 0, 1) := by decide +kernel
theorem d_Y_clear_1 : decode b_Y_clear 1 = .ok (.iload_n 1, 1) := by decide +kernel
theorem d_Y_clear_2 : decode b_Y_clear 2 = .ok (.putfield 37, 3) := by decide +kernel
theorem d_Y_clear_5 : decode b_Y_clear 5 = .ok (.aload_n 0, 1) := by decide +kernel
theorem d_Y_clear_6 : decode b_Y_clear 6 = .ok (.iload_n 2, 1) := by decide +kernel
theorem d_Y_clear_7 : decode b_Y_clear 7 = .ok (.putfield 41, 3) := by decide +kernel
theorem d_Y_clear_10 : decode b_Y_clear 10 = .ok (.aload_n 0, 1) := by decide +kernel
theorem d_Y_clear_11 : decode b_Y_clear 11 = .ok (.iconst 0, 1) := by decide +kernel
theorem d_Y_clear_12 : decode b_Y_clear 12 = .ok (.putfield 44, 3) := by decide +kernel
theorem d_Y_clear_15 : decode b_Y_clear 15 = .ok (.iconst 0, 1) := by decide +kernel
theorem d_Y_clear_16 : decode b_Y_clear 16 = .ok (.istore_n 3, 1) := by decide +kernel
theorem d_Y_clear_17 : decode b_Y_clear 17 = .ok (.iload_n 3, 1) := by decide +kernel
theorem d_Y_clear_18 : decode b_Y_clear 18 = .ok (.iconst 4, 1) := by decide +kernel
theorem d_Y_clear_19 : decode b_Y_clear 19 = .ok (.if_icmp .ge 16, 3) := by decide +kernel
theorem d_Y_clear_22 : decode b_Y_clear 22 = .ok (.aload_n 0, 1) := by decide +kernel
theorem d_Y_clear_23 : decode b_Y_clear 23 = .ok (.getfield 9, 3) := by decide +kernel
theorem d_Y_clear_26 : decode b_Y_clear 26 = .ok (.iload_n 3, 1) := by decide +kernel
theorem d_Y_clear_27 : decode b_Y_clear 27 = .ok (.iconst 0, 1) := by decide +kernel
theorem d_Y_clear_28 : decode b_Y_clear 28 = .ok (.iastore, 1) := by decide +kernel
theorem d_Y_clear_29 : decode b_Y_clear 29 = .ok (.iinc 3 1, 3) := by decide +kernel
theorem d_Y_clear_32 : decode b_Y_clear 32 = .ok (.goto (-15), 3) := by decide +kernel
theorem d_Y_clear_35 : decode b_Y_clear 35 = .ok (.return_, 1) := by decide +kernel
theorem d_Y_hasPile_0 : decode b_Y_hasPile 0 = .ok (.iload_n 1, 1) := by decide +kernel
theorem d_Y_hasPile_1 : decode b_Y_hasPile 1 = .ok (.iconst 0, 1) := by decide +kernel
theorem d_Y_hasPile_2 : decode b_Y_hasPile 2 = .ok (.aload_n 0, 1) := by decide +kernel
theorem d_Y_hasPile_3 : decode b_Y_hasPile 3 = .ok (.getfield 37, 3) := by decide +kernel
theorem d_Y_hasPile_6 : decode b_Y_hasPile 6 = .ok (.iconst 1, 1) := by decide +kernel
theorem d_Y_hasPile_7 : decode b_Y_hasPile 7 = .ok (.isub, 1) := by decide +kernel
theorem d_Y_hasPile_8 : decode b_Y_hasPile 8 = .ok (.invokestatic 47, 3) := by decide +kernel
theorem d_Y_hasPile_11 : decode b_Y_hasPile 11 = .ok (.ireturn, 1) := by decide +kernel
theorem d_Y_hasPiece_0 : decode b_Y_hasPiece 0 = .ok (.iload_n 1, 1) := by decide +kernel
theorem d_Y_hasPiece_1 : decode b_Y_hasPiece 1 = .ok (.iconst 0, 1) := by decide +kernel
theorem d_Y_hasPiece_2 : decode b_Y_hasPiece 2 = .ok (.aload_n 0, 1) := by decide +kernel
theorem d_Y_hasPiece_3 : decode b_Y_hasPiece 3 = .ok (.getfield 44, 3) := by decide +kernel
theorem d_Y_hasPiece_6 : decode b_Y_hasPiece 6 = .ok (.iconst 1, 1) := by decide +kernel
theorem d_Y_hasPiece_7 : decode b_Y_hasPiece 7 = .ok (.isub, 1) := by decide +kernel
theorem d_Y_hasPiece_8 : decode b_Y_hasPiece 8 = .ok (.invokestatic 47, 3) := by decide +kernel
theorem d_Y_hasPiece_11 : decode b_Y_hasPiece 11 = .ok (.ireturn, 1) := by decide +kernel
theorem d_Y_isGone_0 : decode b_Y_isGone 0 = .ok (.aload_n 0, 1) := by decide +kernel
theorem d_Y_isGone_1 : decode b_Y_isGone 1 = .ok (.getfield 27, 3) := by decide +kernel
theorem d_Y_isGone_4 : decode b_Y_isGone 4 = .ok (.iload_n 1, 1) := by decide +kernel
theorem d_Y_isGone_5 : decode b_Y_isGone 5 = .ok (.iaload, 1) := by decide +kernel
theorem d_Y_isGone_6 : decode b_Y_isGone 6 = .ok (.iconst (-1), 1) := by decide +kernel
theorem d_Y_isGone_7 : decode b_Y_isGone 7 = .ok (.if_icmp .ne 7, 3) := by decide +kernel
theorem d_Y_isGone_10 : decode b_Y_isGone 10 = .ok (.iconst 1, 1) := by decide +kernel
theorem d_Y_isGone_11 : decode b_Y_isGone 11 = .ok (.goto 4, 3) := by decide +kernel
theorem d_Y_isGone_14 : decode b_Y_isGone 14 = .ok (.iconst 0, 1) := by decide +kernel
theorem d_Y_isGone_15 : decode b_Y_isGone 15 = .ok (.ireturn, 1) := by decide +kernel
theorem d_Y_pieceAt_0 : decode b_Y_pieceAt 0 = .ok (.aload_n 0, 1) := by decide +kernel
theorem d_Y_pieceAt_1 : decode b_Y_pieceAt 1 = .ok (.getfield 15, 3) := by decide +kernel
theorem d_Y_pieceAt_4 : decode b_Y_pieceAt 4 = .ok (.iload_n 1, 1) := by decide +kernel
theorem d_Y_pieceAt_5 : decode b_Y_pieceAt 5 = .ok (.iconst 5, 1) := by decide +kernel
theorem d_Y_pieceAt_6 : decode b_Y_pieceAt 6 = .ok (.imul, 1) := by decide +kernel
theorem d_Y_pieceAt_7 : decode b_Y_pieceAt 7 = .ok (.iload_n 2, 1) := by decide +kernel
theorem d_Y_pieceAt_8 : decode b_Y_pieceAt 8 = .ok (.iadd, 1) := by decide +kernel
theorem d_Y_pieceAt_9 : decode b_Y_pieceAt 9 = .ok (.iaload, 1) := by decide +kernel
theorem d_Y_pieceAt_10 : decode b_Y_pieceAt 10 = .ok (.ireturn, 1) := by decide +kernel
theorem d_Y_topOf_0 : decode b_Y_topOf 0 = .ok (.aload_n 0, 1) := by decide +kernel
theorem d_Y_topOf_1 : decode b_Y_topOf 1 = .ok (.getfield 9, 3) := by decide +kernel
theorem d_Y_topOf_4 : decode b_Y_topOf 4 = .ok (.iload_n 1, 1) := by decide +kernel
theorem d_Y_topOf_5 : decode b_Y_topOf 5 = .ok (.iaload, 1) := by decide +kernel
theorem d_Y_topOf_6 : decode b_Y_topOf 6 = .ok (.ifCond .ne 7, 3) := by decide +kernel
theorem d_Y_topOf_9 : decode b_Y_topOf 9 = .ok (.iconst (-1), 1) := by decide +kernel
theorem d_Y_topOf_10 : decode b_Y_topOf 10 = .ok (.goto 16, 3) := by decide +kernel
theorem d_Y_topOf_13 : decode b_Y_topOf 13 = .ok (.aload_n 0, 1) := by decide +kernel
theorem d_Y_topOf_14 : decode b_Y_topOf 14 = .ok (.iload_n 1, 1) := by decide +kernel
theorem d_Y_topOf_15 : decode b_Y_topOf 15 = .ok (.aload_n 0, 1) := by decide +kernel
theorem d_Y_topOf_16 : decode b_Y_topOf 16 = .ok (.getfield 9, 3) := by decide +kernel
theorem d_Y_topOf_19 : decode b_Y_topOf 19 = .ok (.iload_n 1, 1) := by decide +kernel
theorem d_Y_topOf_20 : decode b_Y_topOf 20 = .ok (.iaload, 1) := by decide +kernel
theorem d_Y_topOf_21 : decode b_Y_topOf 21 = .ok (.iconst 1, 1) := by decide +kernel
theorem d_Y_topOf_22 : decode b_Y_topOf 22 = .ok (.isub, 1) := by decide +kernel
theorem d_Y_topOf_23 : decode b_Y_topOf 23 = .ok (.invokevirtual 51, 3) := by decide +kernel
theorem d_Y_topOf_26 : decode b_Y_topOf 26 = .ok (.ireturn, 1) := by decide +kernel
theorem d_Y_takes_0 : decode b_Y_takes 0 = .ok (.aload_n 0, 1) := by decide +kernel
theorem d_Y_takes_1 : decode b_Y_takes 1 = .ok (.getfield 9, 3) := by decide +kernel
theorem d_Y_takes_4 : decode b_Y_takes 4 = .ok (.iload_n 1, 1) := by decide +kernel
theorem d_Y_takes_5 : decode b_Y_takes 5 = .ok (.iaload, 1) := by decide +kernel
theorem d_Y_takes_6 : decode b_Y_takes 6 = .ok (.aload_n 0, 1) := by decide +kernel
theorem d_Y_takes_7 : decode b_Y_takes 7 = .ok (.getfield 41, 3) := by decide +kernel
theorem d_Y_takes_10 : decode b_Y_takes 10 = .ok (.if_icmp .lt 5, 3) := by decide +kernel
theorem d_Y_takes_13 : decode b_Y_takes 13 = .ok (.iconst 0, 1) := by decide +kernel
theorem d_Y_takes_14 : decode b_Y_takes 14 = .ok (.ireturn, 1) := by decide +kernel
theorem d_Y_takes_15 : decode b_Y_takes 15 = .ok (.aload_n 0, 1) := by decide +kernel
theorem d_Y_takes_16 : decode b_Y_takes 16 = .ok (.iload_n 1, 1) := by decide +kernel
theorem d_Y_takes_17 : decode b_Y_takes 17 = .ok (.invokevirtual 55, 3) := by decide +kernel
theorem d_Y_takes_20 : decode b_Y_takes 20 = .ok (.istore_n 3, 1) := by decide +kernel
theorem d_Y_takes_21 : decode b_Y_takes 21 = .ok (.iload_n 3, 1) := by decide +kernel
theorem d_Y_takes_22 : decode b_Y_takes 22 = .ok (.iconst (-1), 1) := by decide +kernel
theorem d_Y_takes_23 : decode b_Y_takes 23 = .ok (.if_icmp .eq 13, 3) := by decide +kernel
theorem d_Y_takes_26 : decode b_Y_takes 26 = .ok (.aload_n 0, 1) := by decide +kernel
theorem d_Y_takes_27 : decode b_Y_takes 27 = .ok (.getfield 21, 3) := by decide +kernel
theorem d_Y_takes_30 : decode b_Y_takes 30 = .ok (.iload_n 3, 1) := by decide +kernel
theorem d_Y_takes_31 : decode b_Y_takes 31 = .ok (.iaload, 1) := by decide +kernel
theorem d_Y_takes_32 : decode b_Y_takes 32 = .ok (.iload_n 2, 1) := by decide +kernel
theorem d_Y_takes_33 : decode b_Y_takes 33 = .ok (.if_icmp .lt 7, 3) := by decide +kernel
theorem d_Y_takes_36 : decode b_Y_takes 36 = .ok (.iconst 1, 1) := by decide +kernel
theorem d_Y_takes_37 : decode b_Y_takes 37 = .ok (.goto 4, 3) := by decide +kernel
theorem d_Y_takes_40 : decode b_Y_takes 40 = .ok (.iconst 0, 1) := by decide +kernel
theorem d_Y_takes_41 : decode b_Y_takes 41 = .ok (.ireturn, 1) := by decide +kernel
theorem d_Y_add_0 : decode b_Y_add 0 = .ok (.aload_n 0, 1) := by decide +kernel
theorem d_Y_add_1 : decode b_Y_add 1 = .ok (.getfield 44, 3) := by decide +kernel
theorem d_Y_add_4 : decode b_Y_add 4 = .ok (.istore 4, 2) := by decide +kernel
theorem d_Y_add_6 : decode b_Y_add 6 = .ok (.aload_n 0, 1) := by decide +kernel
theorem d_Y_add_7 : decode b_Y_add 7 = .ok (.dup, 1) := by decide +kernel
theorem d_Y_add_8 : decode b_Y_add 8 = .ok (.getfield 44, 3) := by decide +kernel
theorem d_Y_add_11 : decode b_Y_add 11 = .ok (.iconst 1, 1) := by decide +kernel
theorem d_Y_add_12 : decode b_Y_add 12 = .ok (.iadd, 1) := by decide +kernel
theorem d_Y_add_13 : decode b_Y_add 13 = .ok (.putfield 44, 3) := by decide +kernel
theorem d_Y_add_16 : decode b_Y_add 16 = .ok (.aload_n 0, 1) := by decide +kernel
theorem d_Y_add_17 : decode b_Y_add 17 = .ok (.getfield 18, 3) := by decide +kernel
theorem d_Y_add_20 : decode b_Y_add 20 = .ok (.iload 4, 2) := by decide +kernel
theorem d_Y_add_22 : decode b_Y_add 22 = .ok (.iload_n 2, 1) := by decide +kernel
theorem d_Y_add_23 : decode b_Y_add 23 = .ok (.iastore, 1) := by decide +kernel
theorem d_Y_add_24 : decode b_Y_add 24 = .ok (.aload_n 0, 1) := by decide +kernel
theorem d_Y_add_25 : decode b_Y_add 25 = .ok (.getfield 21, 3) := by decide +kernel
theorem d_Y_add_28 : decode b_Y_add 28 = .ok (.iload 4, 2) := by decide +kernel
theorem d_Y_add_30 : decode b_Y_add 30 = .ok (.iload_n 3, 1) := by decide +kernel
theorem d_Y_add_31 : decode b_Y_add 31 = .ok (.iastore, 1) := by decide +kernel
theorem d_Y_add_32 : decode b_Y_add 32 = .ok (.aload_n 0, 1) := by decide +kernel
theorem d_Y_add_33 : decode b_Y_add 33 = .ok (.getfield 24, 3) := by decide +kernel
theorem d_Y_add_36 : decode b_Y_add 36 = .ok (.iload 4, 2) := by decide +kernel
theorem d_Y_add_38 : decode b_Y_add 38 = .ok (.iconst (-1), 1) := by decide +kernel
theorem d_Y_add_39 : decode b_Y_add 39 = .ok (.iastore, 1) := by decide +kernel
theorem d_Y_add_40 : decode b_Y_add 40 = .ok (.aload_n 0, 1) := by decide +kernel
