theorem d_P_init_0 : decode b_P_init 0 = .ok (.aload_n 0, 1) := by decide +kernel
theorem d_P_init_1 : decode b_P_init 1 = .ok (.invokespecial 1, 3) := by decide +kernel
theorem d_P_init_4 : decode b_P_init 4 = .ok (.aload_n 0, 1) := by decide +kernel
theorem d_P_init_5 : decode b_P_init 5 = .ok (.new 7, 3) := by decide +kernel
theorem d_P_init_8 : decode b_P_init 8 = .ok (.dup, 1) := by decide +kernel
theorem d_P_init_9 : decode b_P_init 9 = .ok (.invokespecial 9, 3) := by decide +kernel
theorem d_P_init_12 : decode b_P_init 12 = .ok (.putfield 10, 3) := by decide +kernel
theorem d_P_init_15 : decode b_P_init 15 = .ok (.aload_n 0, 1) := by decide +kernel
theorem d_P_init_16 : decode b_P_init 16 = .ok (.new 16, 3) := by decide +kernel
theorem d_P_init_19 : decode b_P_init 19 = .ok (.dup, 1) := by decide +kernel
theorem d_P_init_20 : decode b_P_init 20 = .ok (.invokespecial 18, 3) := by decide +kernel
theorem d_P_init_23 : decode b_P_init 23 = .ok (.putfield 19, 3) := by decide +kernel
theorem d_P_init_26 : decode b_P_init 26 = .ok (.aload_n 0, 1) := by decide +kernel
theorem d_P_init_27 : decode b_P_init 27 = .ok (.new 23, 3) := by decide +kernel
theorem d_P_init_30 : decode b_P_init 30 = .ok (.dup, 1) := by decide +kernel
theorem d_P_init_31 : decode b_P_init 31 = .ok (.invokespecial 25, 3) := by decide +kernel
theorem d_P_init_34 : decode b_P_init 34 = .ok (.putfield 26, 3) := by decide +kernel
theorem d_P_init_37 : decode b_P_init 37 = .ok (.return_, 1) := by decide +kernel
theorem d_P_piles_0 : decode b_P_piles 0 = .ok (.iload_n 1, 1) := by decide +kernel
theorem d_P_piles_1 : decode b_P_piles 1 = .ok (.iconst 1, 1) := by decide +kernel
theorem d_P_piles_2 : decode b_P_piles 2 = .ok (.iconst 4, 1) := by decide +kernel
theorem d_P_piles_3 : decode b_P_piles 3 = .ok (.invokestatic 30, 3) := by decide +kernel
theorem d_P_piles_6 : decode b_P_piles 6 = .ok (.ifCond .eq 12, 3) := by decide +kernel
theorem d_P_piles_9 : decode b_P_piles 9 = .ok (.iload_n 2, 1) := by decide +kernel
theorem d_P_piles_10 : decode b_P_piles 10 = .ok (.iconst 1, 1) := by decide +kernel
theorem d_P_piles_11 : decode b_P_piles 11 = .ok (.iconst 5, 1) := by decide +kernel
theorem d_P_piles_12 : decode b_P_piles 12 = .ok (.invokestatic 30, 3) := by decide +kernel
theorem d_P_piles_15 : decode b_P_piles 15 = .ok (.ifCond .ne 13, 3) := by decide +kernel
theorem d_P_piles_18 : decode b_P_piles 18 = .ok (.new 34, 3) := by decide +kernel
theorem d_P_piles_21 : decode b_P_piles 21 = .ok (.dup, 1) := by decide +kernel
theorem d_P_piles_22 : decode b_P_piles 22 = .ok (.ldc 36, 2) := by decide +kernel
theorem d_P_piles_24 : decode b_P_piles 24 = .ok (.invokespecial 38, 3) := by decide +kernel
theorem d_P_piles_27 : decode b_P_piles 27 = .ok (.athrow, 1) := by decide +kernel
theorem d_P_piles_28 : decode b_P_piles 28 = .ok (.aload_n 0, 1) := by decide +kernel
theorem d_P_piles_29 : decode b_P_piles 29 = .ok (.getfield 10, 3) := by decide +kernel
theorem d_P_piles_32 : decode b_P_piles 32 = .ok (.iload_n 1, 1) := by decide +kernel
theorem d_P_piles_33 : decode b_P_piles 33 = .ok (.iload_n 2, 1) := by decide +kernel
theorem d_P_piles_34 : decode b_P_piles 34 = .ok (.invokevirtual 41, 3) := by decide +kernel
theorem d_P_piles_37 : decode b_P_piles 37 = .ok (.aload_n 0, 1) := by decide +kernel
theorem d_P_piles_38 : decode b_P_piles 38 = .ok (.getfield 26, 3) := by decide +kernel
theorem d_P_piles_41 : decode b_P_piles 41 = .ok (.invokevirtual 45, 3) := by decide +kernel
theorem d_P_piles_44 : decode b_P_piles 44 = .ok (.aload_n 0, 1) := by decide +kernel
theorem d_P_piles_45 : decode b_P_piles 45 = .ok (.getfield 19, 3) := by decide +kernel
theorem d_P_piles_48 : decode b_P_piles 48 = .ok (.invokevirtual 47, 3) := by decide +kernel
theorem d_P_piles_51 : decode b_P_piles 51 = .ok (.return_, 1) := by decide +kernel
theorem d_P_put_0 : decode b_P_put 0 = .ok (.aload_n 0, 1) := by decide +kernel
theorem d_P_put_1 : decode b_P_put 1 = .ok (.getfield 10, 3) := by decide +kernel
theorem d_P_put_4 : decode b_P_put 4 = .ok (.iload_n 1, 1) := by decide +kernel
theorem d_P_put_5 : decode b_P_put 5 = .ok (.invokevirtual 50, 3) := by decide +kernel
theorem d_P_put_8 : decode b_P_put 8 = .ok (.ifCond .ne 13, 3) := by decide +kernel
theorem d_P_put_11 : decode b_P_put 11 = .ok (.new 54, 3) := by decide +kernel
theorem d_P_put_14 : decode b_P_put 14 = .ok (.dup, 1) := by decide +kernel
theorem d_P_put_15 : decode b_P_put 15 = .ok (.ldc 56, 2) := by decide +kernel
theorem d_P_put_17 : decode b_P_put 17 = .ok (.invokespecial 58, 3) := by decide +kernel
theorem d_P_put_20 : decode b_P_put 20 = .ok (.athrow, 1) := by decide +kernel
theorem d_P_put_21 : decode b_P_put 21 = .ok (.iload_n 2, 1) := by decide +kernel
theorem d_P_put_22 : decode b_P_put 22 = .ok (.iconst 1, 1) := by decide +kernel
theorem d_P_put_23 : decode b_P_put 23 = .ok (.sipush 1000, 3) := by decide +kernel
theorem d_P_put_26 : decode b_P_put 26 = .ok (.invokestatic 30, 3) := by decide +kernel
theorem d_P_put_29 : decode b_P_put 29 = .ok (.ifCond .eq 13, 3) := by decide +kernel
theorem d_P_put_32 : decode b_P_put 32 = .ok (.iload_n 3, 1) := by decide +kernel
theorem d_P_put_33 : decode b_P_put 33 = .ok (.iconst 1, 1) := by decide +kernel
theorem d_P_put_34 : decode b_P_put 34 = .ok (.bipush 100, 2) := by decide +kernel
theorem d_P_put_36 : decode b_P_put 36 = .ok (.invokestatic 30, 3) := by decide +kernel
theorem d_P_put_39 : decode b_P_put 39 = .ok (.ifCond .ne 13, 3) := by decide +kernel
theorem d_P_put_42 : decode b_P_put 42 = .ok (.new 34, 3) := by decide +kernel
theorem d_P_put_45 : decode b_P_put 45 = .ok (.dup, 1) := by decide +kernel
theorem d_P_put_46 : decode b_P_put 46 = .ok (.ldc 59, 2) := by decide +kernel
theorem d_P_put_48 : decode b_P_put 48 = .ok (.invokespecial 38, 3) := by decide +kernel
theorem d_P_put_51 : decode b_P_put 51 = .ok (.athrow, 1) := by decide +kernel
theorem d_P_put_52 : decode b_P_put 52 = .ok (.aload_n 0, 1) := by decide +kernel
theorem d_P_put_53 : decode b_P_put 53 = .ok (.getfield 10, 3) := by decide +kernel
theorem d_P_put_56 : decode b_P_put 56 = .ok (.getfield 61, 3) := by decide +kernel
theorem d_P_put_59 : decode b_P_put 59 = .ok (.bipush 10, 2) := by decide +kernel
theorem d_P_put_61 : decode b_P_put 61 = .ok (.if_icmp .ge 15, 3) := by decide +kernel
theorem d_P_put_64 : decode b_P_put 64 = .ok (.aload_n 0, 1) := by decide +kernel
theorem d_P_put_65 : decode b_P_put 65 = .ok (.getfield 10, 3) := by decide +kernel
theorem d_P_put_68 : decode b_P_put 68 = .ok (.iload_n 1, 1) := by decide +kernel
theorem d_P_put_69 : decode b_P_put 69 = .ok (.iload_n 3, 1) := by decide +kernel
theorem d_P_put_70 : decode b_P_put 70 = .ok (.invokevirtual 65, 3) := by decide +kernel
theorem d_P_put_73 : decode b_P_put 73 = .ok (.ifCond .ne 13, 3) := by decide +kernel
theorem d_P_put_76 : decode b_P_put 76 = .ok (.new 69, 3) := by decide +kernel
theorem d_P_put_79 : decode b_P_put 79 = .ok (.dup, 1) := by decide +kernel
theorem d_P_put_80 : decode b_P_put 80 = .ok (.ldc 71, 2) := by decide +kernel
theorem d_P_put_82 : decode b_P_put 82 = .ok (.invokespecial 73, 3) := by decide +kernel
theorem d_P_put_85 : decode b_P_put 85 = .ok (.athrow, 1) := by decide +kernel
theorem d_P_put_86 : decode b_P_put 86 = .ok (.aload_n 0, 1) := by decide +kernel
theorem d_P_put_87 : decode b_P_put 87 = .ok (.getfield 19, 3) := by decide +kernel
theorem d_P_put_90 : decode b_P_put 90 = .ok (.invokevirtual 47, 3) := by decide +kernel
theorem d_P_put_93 : decode b_P_put 93 = .ok (.aload_n 0, 1) := by decide +kernel
theorem d_P_put_94 : decode b_P_put 94 = .ok (.getfield 10, 3) := by decide +kernel
theorem d_P_put_97 : decode b_P_put 97 = .ok (.iload_n 1, 1) := by decide +kernel
theorem d_P_put_98 : decode b_P_put 98 = .ok (.iload_n 2, 1) := by decide +kernel
theorem d_P_put_99 : decode b_P_put 99 = .ok (.iload_n 3, 1) := by decide +kernel
theorem d_P_put_100 : decode b_P_put 100 = .ok (.invokevirtual 74, 3) := by decide +kernel
theorem d_P_put_103 : decode b_P_put 103 = .ok (.ireturn, 1) := by decide +kernel
theorem d_P_want_0 : decode b_P_want 0 = .ok (.aload_n 0, 1) := by decide +kernel
theorem d_P_want_1 : decode b_P_want 1 = .ok (.iload_n 1, 1) := by decide +kernel
theorem d_P_want_2 : decode b_P_want 2 = .ok (.invokevirtual 78, 3) := by decide +kernel
theorem d_P_want_5 : decode b_P_want 5 = .ok (.aload_n 0, 1) := by decide +kernel
theorem d_P_want_6 : decode b_P_want 6 = .ok (.getfield 10, 3) := by decide +kernel
theorem d_P_want_9 : decode b_P_want 9 = .ok (.iload_n 1, 1) := by decide +kernel
theorem d_P_want_10 : decode b_P_want 10 = .ok (.invokevirtual 82, 3) := by decide +kernel
theorem d_P_want_13 : decode b_P_want 13 = .ok (.ifCond .eq 13, 3) := by decide +kernel
theorem d_P_want_16 : decode b_P_want 16 = .ok (.new 85, 3) := by decide +kernel
theorem d_P_want_19 : decode b_P_want 19 = .ok (.dup, 1) := by decide +kernel
theorem d_P_want_20 : decode b_P_want 20 = .ok (.ldc 87, 2) := by decide +kernel
theorem d_P_want_22 : decode b_P_want 22 = .ok (.invokespecial 89, 3) := by decide +kernel
theorem d_P_want_25 : decode b_P_want 25 = .ok (.athrow, 1) := by decide +kernel
theorem d_P_want_26 : decode b_P_want 26 = .ok (.iload_n 2, 1) := by decide +kernel
theorem d_P_want_27 : decode b_P_want 27 = .ok (.iconst (-1), 1) := by decide +kernel
theorem d_P_want_28 : decode b_P_want 28 = .ok (.bipush 99, 2) := by decide +kernel
theorem d_P_want_30 : decode b_P_want 30 = .ok (.invokestatic 30, 3) := by decide +kernel
theorem d_P_want_33 : decode b_P_want 33 = .ok (.ifCond .ne 13, 3) := by decide +kernel
theorem d_P_want_36 : decode b_P_want 36 = .ok (.new 34, 3) := by decide +kernel
theorem d_P_want_39 : decode b_P_want 39 = .ok (.dup, 1) := by decide +kernel
theorem d_P_want_40 : decode b_P_want 40 = .ok (.ldc 90, 2) := by decide +kernel
theorem d_P_want_42 : decode b_P_want 42 = .ok (.invokespecial 38, 3) := by decide +kernel
theorem d_P_want_45 : decode b_P_want 45 = .ok (.athrow, 1) := by decide +kernel
theorem d_P_want_46 : decode b_P_want 46 = .ok (.aload_n 0, 1) := by decide +kernel
theorem d_P_want_47 : decode b_P_want 47 = .ok (.getfield 19, 3) := by decide +kernel
theorem d_P_want_50 : decode b_P_want 50 = .ok (.invokevirtual 47, 3) := by decide +kernel
theorem d_P_want_53 : decode b_P_want 53 = .ok (.aload_n 0, 1) := by decide +kernel
theorem d_P_want_54 : decode b_P_want 54 = .ok (.getfield 10, 3) := by decide +kernel
theorem d_P_want_57 : decode b_P_want 57 = .ok (.getfield 92, 3) := by decide +kernel
theorem d_P_want_60 : decode b_P_want 60 = .ok (.iload_n 1, 1) := by decide +kernel
theorem d_P_want_61 : decode b_P_want 61 = .ok (.iload_n 2, 1) := by decide +kernel
theorem d_P_want_62 : decode b_P_want 62 = .ok (.iastore, 1) := by decide +kernel
theorem d_P_want_63 : decode b_P_want 63 = .ok (.return_, 1) := by decide +kernel
theorem d_P_may_0 : decode b_P_may 0 = .ok (.aload_n 0, 1) := by decide +kernel
theorem d_P_may_1 : decode b_P_may 1 = .ok (.iload_n 1, 1) := by decide +kernel
theorem d_P_may_2 : decode b_P_may 2 = .ok (.invokevirtual 78, 3) := by decide +kernel
theorem d_P_may_5 : decode b_P_may 5 = .ok (.aload_n 0, 1) := by decide +kernel
theorem d_P_may_6 : decode b_P_may 6 = .ok (.iload_n 2, 1) := by decide +kernel
theorem d_P_may_7 : decode b_P_may 7 = .ok (.invokevirtual 78, 3) := by decide +kernel
theorem d_P_may_10 : decode b_P_may 10 = .ok (.aload_n 0, 1) := by decide +kernel
theorem d_P_may_11 : decode b_P_may 11 = .ok (.getfield 10, 3) := by decide +kernel
theorem d_P_may_14 : decode b_P_may 14 = .ok (.getfield 96, 3) := by decide +kernel
theorem d_P_may_17 : decode b_P_may 17 = .ok (.iload_n 1, 1) := by decide +kernel
theorem d_P_may_18 : decode b_P_may 18 = .ok (.iaload, 1) := by decide +kernel
theorem d_P_may_19 : decode b_P_may 19 = .ok (.aload_n 0, 1) := by decide +kernel
theorem d_P_may_20 : decode b_P_may 20 = .ok (.getfield 10, 3) := by decide +kernel
theorem d_P_may_23 : decode b_P_may 23 = .ok (.getfield 96, 3) := by decide +kernel
theorem d_P_may_26 : decode b_P_may 26 = .ok (.iload_n 2, 1) := by decide +kernel
theorem d_P_may_27 : decode b_P_may 27 = .ok (.iaload, 1) := by decide +kernel
theorem d_P_may_28 : decode b_P_may 28 = .ok (.if_icmp .lt 7, 3) := by decide +kernel
theorem d_P_may_31 : decode b_P_may 31 = .ok (.iconst 1, 1) := by decide +kernel
theorem d_P_may_32 : decode b_P_may 32 = .ok (.goto 4, 3) := by decide +kernel
theorem d_P_may_35 : decode b_P_may 35 = .ok (.iconst 0, 1) := by decide +kernel
theorem d_P_may_36 : decode b_P_may 36 = .ok (.ireturn, 1) := by decide +kernel
theorem d_P_bound_0 : decode b_P_bound 0 = .ok (.aload_n 0, 1) := by decide +kernel
theorem d_P_bound_1 : decode b_P_bound 1 = .ok (.getfield 10, 3) := by decide +kernel
theorem d_P_bound_4 : decode b_P_bound 4 = .ok (.invokevirtual 99, 3) := by decide +kernel
theorem d_P_bound_7 : decode b_P_bound 7 = .ok (.ireturn, 1) := by decide +kernel
theorem d_P_run_0 : decode b_P_run 0 = .ok (.iload_n 1, 1) := by decide +kernel
theorem d_P_run_1 : decode b_P_run 1 = .ok (.iconst 0, 1) := by decide +kernel
theorem d_P_run_2 : decode b_P_run 2 = .ok (.ldc 103, 2) := by decide +kernel
theorem d_P_run_4 : decode b_P_run 4 = .ok (.invokestatic 30, 3) := by decide +kernel
theorem d_P_run_7 : decode b_P_run 7 = .ok (.ifCond .ne 13, 3) := by decide +kernel
theorem d_P_run_10 : decode b_P_run 10 = .ok (.new 34, 3) := by decide +kernel
theorem d_P_run_13 : decode b_P_run 13 = .ok (.dup, 1) := by decide +kernel
theorem d_P_run_14 : decode b_P_run 14 = .ok (.ldc 104, 2) := by decide +kernel
theorem d_P_run_16 : decode b_P_run 16 = .ok (.invokespecial 38, 3) := by decide +kernel
theorem d_P_run_19 : decode b_P_run 19 = .ok (.athrow, 1) := by decide +kernel
theorem d_P_run_20 : decode b_P_run 20 = .ok (.aload_n 0, 1) := by decide +kernel
theorem d_P_run_21 : decode b_P_run 21 = .ok (.getfield 19, 3) := by decide +kernel
theorem d_P_run_24 : decode b_P_run 24 = .ok (.aload_n 0, 1) := by decide +kernel
theorem d_P_run_25 : decode b_P_run 25 = .ok (.getfield 10, 3) := by decide +kernel
theorem d_P_run_28 : decode b_P_run 28 = .ok (.iload_n 1, 1) := by decide +kernel
theorem d_P_run_29 : decode b_P_run 29 = .ok (.invokevirtual 106, 3) := by decide +kernel
theorem d_P_run_32 : decode b_P_run 32 = .ok (.ireturn, 1) := by decide +kernel
theorem d_P_proved_0 : decode b_P_proved 0 = .ok (.aload_n 0, 1) := by decide +kernel
theorem d_P_proved_1 : decode b_P_proved 1 = .ok (.getfield 19, 3) := by decide +kernel
theorem d_P_proved_4 : decode b_P_proved 4 = .ok (.getfield 110, 3) := by decide +kernel
theorem d_P_proved_7 : decode b_P_proved 7 = .ok (.ifCond .ne 13, 3) := by decide +kernel
theorem d_P_proved_10 : decode b_P_proved 10 = .ok (.new 85, 3) := by decide +kernel
theorem d_P_proved_13 : decode b_P_proved 13 = .ok (.dup, 1) := by decide +kernel
theorem d_P_proved_14 : decode b_P_proved 14 = .ok (.ldc 114, 2) := by decide +kernel
theorem d_P_proved_16 : decode b_P_proved 16 = .ok (.invokespecial 89, 3) := by decide +kernel
theorem d_P_proved_19 : decode b_P_proved 19 = .ok (.athrow, 1) := by decide +kernel
theorem d_P_proved_20 : decode b_P_proved 20 = .ok (.aload_n 0, 1) := by decide +kernel
theorem d_P_proved_21 : decode b_P_proved 21 = .ok (.getfield 19, 3) := by decide +kernel
theorem d_P_proved_24 : decode b_P_proved 24 = .ok (.getfield 116, 3) := by decide +kernel
theorem d_P_proved_27 : decode b_P_proved 27 = .ok (.ireturn, 1) := by decide +kernel
theorem d_P_moves_0 : decode b_P_moves 0 = .ok (.aload_n 0, 1) := by decide +kernel
theorem d_P_moves_1 : decode b_P_moves 1 = .ok (.invokevirtual 119, 3) := by decide +kernel
theorem d_P_moves_4 : decode b_P_moves 4 = .ok (.aload_n 0, 1) := by decide +kernel
theorem d_P_moves_5 : decode b_P_moves 5 = .ok (.getfield 19, 3) := by decide +kernel
theorem d_P_moves_8 : decode b_P_moves 8 = .ok (.getfield 122, 3) := by decide +kernel
theorem d_P_moves_11 : decode b_P_moves 11 = .ok (.ireturn, 1) := by decide +kernel
theorem d_P_move_0 : decode b_P_move 0 = .ok (.iload_n 2, 1) := by decide +kernel
theorem d_P_move_1 : decode b_P_move 1 = .ok (.iconst 0, 1) := by decide +kernel
theorem d_P_move_2 : decode b_P_move 2 = .ok (.iconst 1, 1) := by decide +kernel
theorem d_P_move_3 : decode b_P_move 3 = .ok (.invokestatic 30, 3) := by decide +kernel
theorem d_P_move_6 : decode b_P_move 6 = .ok (.ifCond .ne 13, 3) := by decide +kernel
theorem d_P_move_9 : decode b_P_move 9 = .ok (.new 54, 3) := by decide +kernel
theorem d_P_move_12 : decode b_P_move 12 = .ok (.dup, 1) := by decide +kernel
theorem d_P_move_13 : decode b_P_move 13 = .ok (.ldc 125, 2) := by decide +kernel
theorem d_P_move_15 : decode b_P_move 15 = .ok (.invokespecial 58, 3) := by decide +kernel
theorem d_P_move_18 : decode b_P_move 18 = .ok (.athrow, 1) := by decide +kernel
theorem d_P_move_19 : decode b_P_move 19 = .ok (.aload_n 0, 1) := by decide +kernel
theorem d_P_move_20 : decode b_P_move 20 = .ok (.invokevirtual 119, 3) := by decide +kernel
theorem d_P_move_23 : decode b_P_move 23 = .ok (.iload_n 1, 1) := by decide +kernel
theorem d_P_move_24 : decode b_P_move 24 = .ok (.iconst 0, 1) := by decide +kernel
theorem d_P_move_25 : decode b_P_move 25 = .ok (.aload_n 0, 1) := by decide +kernel
theorem d_P_move_26 : decode b_P_move 26 = .ok (.getfield 19, 3) := by decide +kernel
theorem d_P_move_29 : decode b_P_move 29 = .ok (.getfield 122, 3) := by decide +kernel
theorem d_P_move_32 : decode b_P_move 32 = .ok (.iconst 1, 1) := by decide +kernel
theorem d_P_move_33 : decode b_P_move 33 = .ok (.isub, 1) := by decide +kernel
theorem d_P_move_34 : decode b_P_move 34 = .ok (.invokestatic 30, 3) := by decide +kernel
theorem d_P_move_37 : decode b_P_move 37 = .ok (.ifCond .ne 13, 3) := by decide +kernel
theorem d_P_move_40 : decode b_P_move 40 = .ok (.new 34, 3) := by decide +kernel
theorem d_P_move_43 : decode b_P_move 43 = .ok (.dup, 1) := by decide +kernel
theorem d_P_move_44 : decode b_P_move 44 = .ok (.ldc 127, 2) := by decide +kernel
theorem d_P_move_46 : decode b_P_move 46 = .ok (.invokespecial 38, 3) := by decide +kernel
theorem d_P_move_49 : decode b_P_move 49 = .ok (.athrow, 1) := by decide +kernel
theorem d_P_move_50 : decode b_P_move 50 = .ok (.iload_n 2, 1) := by decide +kernel
theorem d_P_move_51 : decode b_P_move 51 = .ok (.ifCond .ne 15, 3) := by decide +kernel
theorem d_P_move_54 : decode b_P_move 54 = .ok (.aload_n 0, 1) := by decide +kernel
theorem d_P_move_55 : decode b_P_move 55 = .ok (.getfield 19, 3) := by decide +kernel
theorem d_P_move_58 : decode b_P_move 58 = .ok (.getfield 129, 3) := by decide +kernel
theorem d_P_move_61 : decode b_P_move 61 = .ok (.iload_n 1, 1) := by decide +kernel
theorem d_P_move_62 : decode b_P_move 62 = .ok (.iaload, 1) := by decide +kernel
theorem d_P_move_63 : decode b_P_move 63 = .ok (.goto 12, 3) := by decide +kernel
theorem d_P_move_66 : decode b_P_move 66 = .ok (.aload_n 0, 1) := by decide +kernel
theorem d_P_move_67 : decode b_P_move 67 = .ok (.getfield 19, 3) := by decide +kernel
theorem d_P_move_70 : decode b_P_move 70 = .ok (.getfield 132, 3) := by decide +kernel
theorem d_P_move_73 : decode b_P_move 73 = .ok (.iload_n 1, 1) := by decide +kernel
theorem d_P_move_74 : decode b_P_move 74 = .ok (.iaload, 1) := by decide +kernel
theorem d_P_move_75 : decode b_P_move 75 = .ok (.ireturn, 1) := by decide +kernel
theorem d_P_replay_0 : decode b_P_replay 0 = .ok (.aload_n 0, 1) := by decide +kernel
theorem d_P_replay_1 : decode b_P_replay 1 = .ok (.invokevirtual 119, 3) := by decide +kernel
theorem d_P_replay_4 : decode b_P_replay 4 = .ok (.iload_n 1, 1) := by decide +kernel
theorem d_P_replay_5 : decode b_P_replay 5 = .ok (.iconst 0, 1) := by decide +kernel
theorem d_P_replay_6 : decode b_P_replay 6 = .ok (.aload_n 0, 1) := by decide +kernel
theorem d_P_replay_7 : decode b_P_replay 7 = .ok (.getfield 19, 3) := by decide +kernel
theorem d_P_replay_10 : decode b_P_replay 10 = .ok (.getfield 122, 3) := by decide +kernel
theorem d_P_replay_13 : decode b_P_replay 13 = .ok (.invokestatic 30, 3) := by decide +kernel
theorem d_P_replay_16 : decode b_P_replay 16 = .ok (.ifCond .ne 13, 3) := by decide +kernel
theorem d_P_replay_19 : decode b_P_replay 19 = .ok (.new 34, 3) := by decide +kernel
theorem d_P_replay_22 : decode b_P_replay 22 = .ok (.dup, 1) := by decide +kernel
theorem d_P_replay_23 : decode b_P_replay 23 = .ok (.ldc 135, 2) := by decide +kernel
theorem d_P_replay_25 : decode b_P_replay 25 = .ok (.invokespecial 38, 3) := by decide +kernel
theorem d_P_replay_28 : decode b_P_replay 28 = .ok (.athrow, 1) := by decide +kernel
theorem d_P_replay_29 : decode b_P_replay 29 = .ok (.aload_n 0, 1) := by decide +kernel
theorem d_P_replay_30 : decode b_P_replay 30 = .ok (.getfield 19, 3) := by decide +kernel
theorem d_P_replay_33 : decode b_P_replay 33 = .ok (.aload_n 0, 1) := by decide +kernel
theorem d_P_replay_34 : decode b_P_replay 34 = .ok (.getfield 10, 3) := by decide +kernel
theorem d_P_replay_37 : decode b_P_replay 37 = .ok (.iload_n 1, 1) := by decide +kernel
theorem d_P_replay_38 : decode b_P_replay 38 = .ok (.invokevirtual 137, 3) := by decide +kernel
theorem d_P_replay_41 : decode b_P_replay 41 = .ok (.aload_n 0, 1) := by decide +kernel
theorem d_P_replay_42 : decode b_P_replay 42 = .ok (.getfield 19, 3) := by decide +kernel
theorem d_P_replay_45 : decode b_P_replay 45 = .ok (.invokevirtual 47, 3) := by decide +kernel
theorem d_P_replay_48 : decode b_P_replay 48 = .ok (.aload_n 0, 1) := by decide +kernel
theorem d_P_replay_49 : decode b_P_replay 49 = .ok (.getfield 10, 3) := by decide +kernel
theorem d_P_replay_52 : decode b_P_replay 52 = .ok (.invokevirtual 141, 3) := by decide +kernel
theorem d_P_replay_55 : decode b_P_replay 55 = .ok (.ireturn, 1) := by decide +kernel
theorem d_P_at_0 : decode b_P_at 0 = .ok (.aload_n 0, 1) := by decide +kernel
theorem d_P_at_1 : decode b_P_at 1 = .ok (.iload_n 1, 1) := by decide +kernel
theorem d_P_at_2 : decode b_P_at 2 = .ok (.invokevirtual 78, 3) := by decide +kernel
theorem d_P_at_5 : decode b_P_at 5 = .ok (.iload_n 2, 1) := by decide +kernel
theorem d_P_at_6 : decode b_P_at 6 = .ok (.tableswitch 91 0 4 #[34, 44, 54, 71, 81], 34) := by decide +kernel
theorem d_P_at_40 : decode b_P_at 40 = .ok (.aload_n 0, 1) := by decide +kernel
theorem d_P_at_41 : decode b_P_at 41 = .ok (.getfield 10, 3) := by decide +kernel
theorem d_P_at_44 : decode b_P_at 44 = .ok (.getfield 144, 3) := by decide +kernel
theorem d_P_at_47 : decode b_P_at 47 = .ok (.iload_n 1, 1) := by decide +kernel
theorem d_P_at_48 : decode b_P_at 48 = .ok (.iaload, 1) := by decide +kernel
theorem d_P_at_49 : decode b_P_at 49 = .ok (.ireturn, 1) := by decide +kernel
theorem d_P_at_50 : decode b_P_at 50 = .ok (.aload_n 0, 1) := by decide +kernel
theorem d_P_at_51 : decode b_P_at 51 = .ok (.getfield 10, 3) := by decide +kernel
theorem d_P_at_54 : decode b_P_at 54 = .ok (.getfield 147, 3) := by decide +kernel
theorem d_P_at_57 : decode b_P_at 57 = .ok (.iload_n 1, 1) := by decide +kernel
theorem d_P_at_58 : decode b_P_at 58 = .ok (.iaload, 1) := by decide +kernel
theorem d_P_at_59 : decode b_P_at 59 = .ok (.ireturn, 1) := by decide +kernel
theorem d_P_at_60 : decode b_P_at 60 = .ok (.aload_n 0, 1) := by decide +kernel
theorem d_P_at_61 : decode b_P_at 61 = .ok (.getfield 10, 3) := by decide +kernel
theorem d_P_at_64 : decode b_P_at 64 = .ok (.iload_n 1, 1) := by decide +kernel
theorem d_P_at_65 : decode b_P_at 65 = .ok (.invokevirtual 150, 3) := by decide +kernel
theorem d_P_at_68 : decode b_P_at 68 = .ok (.ifCond .eq 7, 3) := by decide +kernel
theorem d_P_at_71 : decode b_P_at 71 = .ok (.iconst 1, 1) := by decide +kernel
theorem d_P_at_72 : decode b_P_at 72 = .ok (.goto 4, 3) := by decide +kernel
theorem d_P_at_75 : decode b_P_at 75 = .ok (.iconst 0, 1) := by decide +kernel
theorem d_P_at_76 : decode b_P_at 76 = .ok (.ireturn, 1) := by decide +kernel
theorem d_P_at_77 : decode b_P_at 77 = .ok (.aload_n 0, 1) := by decide +kernel
theorem d_P_at_78 : decode b_P_at 78 = .ok (.getfield 10, 3) := by decide +kernel
theorem d_P_at_81 : decode b_P_at 81 = .ok (.getfield 92, 3) := by decide +kernel
theorem d_P_at_84 : decode b_P_at 84 = .ok (.iload_n 1, 1) := by decide +kernel
theorem d_P_at_85 : decode b_P_at 85 = .ok (.iaload, 1) := by decide +kernel
theorem d_P_at_86 : decode b_P_at 86 = .ok (.ireturn, 1) := by decide +kernel
theorem d_P_at_87 : decode b_P_at 87 = .ok (.aload_n 0, 1) := by decide +kernel
theorem d_P_at_88 : decode b_P_at 88 = .ok (.getfield 26, 3) := by decide +kernel
theorem d_P_at_91 : decode b_P_at 91 = .ok (.getfield 153, 3) := by decide +kernel
theorem d_P_at_94 : decode b_P_at 94 = .ok (.iload_n 1, 1) := by decide +kernel
theorem d_P_at_95 : decode b_P_at 95 = .ok (.iaload, 1) := by decide +kernel
theorem d_P_at_96 : decode b_P_at 96 = .ok (.ireturn, 1) := by decide +kernel
theorem d_P_at_97 : decode b_P_at 97 = .ok (.new 54, 3) := by decide +kernel
theorem d_P_at_100 : decode b_P_at 100 = .ok (.dup, 1) := by decide +kernel
theorem d_P_at_101 : decode b_P_at 101 = .ok (.ldc 156, 2) := by decide +kernel
theorem d_P_at_103 : decode b_P_at 103 = .ok (.invokespecial 58, 3) := by decide +kernel
theorem d_P_at_106 : decode b_P_at 106 = .ok (.athrow, 1) := by decide +kernel
theorem d_P_tidy_0 : decode b_P_tidy 0 = .ok (.iload_n 1, 1) := by decide +kernel
theorem d_P_tidy_1 : decode b_P_tidy 1 = .ok (.iconst 0, 1) := by decide +kernel
theorem d_P_tidy_2 : decode b_P_tidy 2 = .ok (.bipush 20, 2) := by decide +kernel
theorem d_P_tidy_4 : decode b_P_tidy 4 = .ok (.invokestatic 30, 3) := by decide +kernel
theorem d_P_tidy_7 : decode b_P_tidy 7 = .ok (.ifCond .ne 13, 3) := by decide +kernel
theorem d_P_tidy_10 : decode b_P_tidy 10 = .ok (.new 34, 3) := by decide +kernel
theorem d_P_tidy_13 : decode b_P_tidy 13 = .ok (.dup, 1) := by decide +kernel
theorem d_P_tidy_14 : decode b_P_tidy 14 = .ok (.ldc 158, 2) := by decide +kernel
theorem d_P_tidy_16 : decode b_P_tidy 16 = .ok (.invokespecial 38, 3) := by decide +kernel
theorem d_P_tidy_19 : decode b_P_tidy 19 = .ok (.athrow, 1) := by decide +kernel
theorem d_P_tidy_20 : decode b_P_tidy 20 = .ok (.iconst 0, 1) := by decide +kernel
theorem d_P_tidy_21 : decode b_P_tidy 21 = .ok (.istore_n 2, 1) := by decide +kernel
theorem d_P_tidy_22 : decode b_P_tidy 22 = .ok (.iload_n 2, 1) := by decide +kernel
theorem d_P_tidy_23 : decode b_P_tidy 23 = .ok (.iload_n 1, 1) := by decide +kernel
theorem d_P_tidy_24 : decode b_P_tidy 24 = .ok (.if_icmp .ge 19, 3) := by decide +kernel
theorem d_P_tidy_27 : decode b_P_tidy 27 = .ok (.aload_n 0, 1) := by decide +kernel
theorem d_P_tidy_28 : decode b_P_tidy 28 = .ok (.getfield 10, 3) := by decide +kernel
theorem d_P_tidy_31 : decode b_P_tidy 31 = .ok (.invokevirtual 160, 3) := by decide +kernel
theorem d_P_tidy_34 : decode b_P_tidy 34 = .ok (.ifCond .eq 9, 3) := by decide +kernel
theorem d_P_tidy_37 : decode b_P_tidy 37 = .ok (.iinc 2 1, 3) := by decide +kernel
theorem d_P_tidy_40 : decode b_P_tidy 40 = .ok (.goto (-18), 3) := by decide +kernel
theorem d_P_tidy_43 : decode b_P_tidy 43 = .ok (.iload_n 2, 1) := by decide +kernel
theorem d_P_tidy_44 : decode b_P_tidy 44 = .ok (.ifCond .le 10, 3) := by decide +kernel
theorem d_P_tidy_47 : decode b_P_tidy 47 = .ok (.aload_n 0, 1) := by decide +kernel
theorem d_P_tidy_48 : decode b_P_tidy 48 = .ok (.getfield 19, 3) := by decide +kernel
theorem d_P_tidy_51 : decode b_P_tidy 51 = .ok (.invokevirtual 47, 3) := by decide +kernel
theorem d_P_tidy_54 : decode b_P_tidy 54 = .ok (.iload_n 2, 1) := by decide +kernel
theorem d_P_tidy_55 : decode b_P_tidy 55 = .ok (.ireturn, 1) := by decide +kernel
theorem d_P_wagon_0 : decode b_P_wagon 0 = .ok (.iload_n 1, 1) := by decide +kernel
theorem d_P_wagon_1 : decode b_P_wagon 1 = .ok (.iconst 1, 1) := by decide +kernel
theorem d_P_wagon_2 : decode b_P_wagon 2 = .ok (.sipush 5000, 3) := by decide +kernel
theorem d_P_wagon_5 : decode b_P_wagon 5 = .ok (.invokestatic 30, 3) := by decide +kernel
theorem d_P_wagon_8 : decode b_P_wagon 8 = .ok (.ifCond .ne 13, 3) := by decide +kernel
theorem d_P_wagon_11 : decode b_P_wagon 11 = .ok (.new 34, 3) := by decide +kernel
theorem d_P_wagon_14 : decode b_P_wagon 14 = .ok (.dup, 1) := by decide +kernel
theorem d_P_wagon_15 : decode b_P_wagon 15 = .ok (.ldc 164, 2) := by decide +kernel
theorem d_P_wagon_17 : decode b_P_wagon 17 = .ok (.invokespecial 38, 3) := by decide +kernel
theorem d_P_wagon_20 : decode b_P_wagon 20 = .ok (.athrow, 1) := by decide +kernel
theorem d_P_wagon_21 : decode b_P_wagon 21 = .ok (.aload_n 0, 1) := by decide +kernel
theorem d_P_wagon_22 : decode b_P_wagon 22 = .ok (.getfield 26, 3) := by decide +kernel
theorem d_P_wagon_25 : decode b_P_wagon 25 = .ok (.getfield 166, 3) := by decide +kernel
theorem d_P_wagon_28 : decode b_P_wagon 28 = .ok (.iconst 4, 1) := by decide +kernel
theorem d_P_wagon_29 : decode b_P_wagon 29 = .ok (.if_icmp .lt 13, 3) := by decide +kernel
theorem d_P_wagon_32 : decode b_P_wagon 32 = .ok (.new 69, 3) := by decide +kernel
theorem d_P_wagon_35 : decode b_P_wagon 35 = .ok (.dup, 1) := by decide +kernel
theorem d_P_wagon_36 : decode b_P_wagon 36 = .ok (.ldc 169, 2) := by decide +kernel
theorem d_P_wagon_38 : decode b_P_wagon 38 = .ok (.invokespecial 73, 3) := by decide +kernel
theorem d_P_wagon_41 : decode b_P_wagon 41 = .ok (.athrow, 1) := by decide +kernel
theorem d_P_wagon_42 : decode b_P_wagon 42 = .ok (.aload_n 0, 1) := by decide +kernel
theorem d_P_wagon_43 : decode b_P_wagon 43 = .ok (.getfield 26, 3) := by decide +kernel
theorem d_P_wagon_46 : decode b_P_wagon 46 = .ok (.iload_n 1, 1) := by decide +kernel
theorem d_P_wagon_47 : decode b_P_wagon 47 = .ok (.invokevirtual 171, 3) := by decide +kernel
theorem d_P_wagon_50 : decode b_P_wagon 50 = .ok (.ireturn, 1) := by decide +kernel
theorem d_P_load_0 : decode b_P_load 0 = .ok (.aload_n 0, 1) := by decide +kernel
theorem d_P_load_1 : decode b_P_load 1 = .ok (.iload_n 1, 1) := by decide +kernel
theorem d_P_load_2 : decode b_P_load 2 = .ok (.invokevirtual 78, 3) := by decide +kernel
theorem d_P_load_5 : decode b_P_load 5 = .ok (.aload_n 0, 1) := by decide +kernel
theorem d_P_load_6 : decode b_P_load 6 = .ok (.getfield 10, 3) := by decide +kernel
theorem d_P_load_9 : decode b_P_load 9 = .ok (.iload_n 1, 1) := by decide +kernel
theorem d_P_load_10 : decode b_P_load 10 = .ok (.invokevirtual 82, 3) := by decide +kernel
theorem d_P_load_13 : decode b_P_load 13 = .ok (.ifCond .eq 16, 3) := by decide +kernel
theorem d_P_load_16 : decode b_P_load 16 = .ok (.aload_n 0, 1) := by decide +kernel
theorem d_P_load_17 : decode b_P_load 17 = .ok (.getfield 26, 3) := by decide +kernel
theorem d_P_load_20 : decode b_P_load 20 = .ok (.getfield 153, 3) := by decide +kernel
theorem d_P_load_23 : decode b_P_load 23 = .ok (.iload_n 1, 1) := by decide +kernel
theorem d_P_load_24 : decode b_P_load 24 = .ok (.iaload, 1) := by decide +kernel
theorem d_P_load_25 : decode b_P_load 25 = .ok (.iconst (-1), 1) := by decide +kernel
theorem d_P_load_26 : decode b_P_load 26 = .ok (.if_icmp .eq 13, 3) := by decide +kernel
theorem d_P_load_29 : decode b_P_load 29 = .ok (.new 85, 3) := by decide +kernel
theorem d_P_load_32 : decode b_P_load 32 = .ok (.dup, 1) := by decide +kernel
theorem d_P_load_33 : decode b_P_load 33 = .ok (.ldc 174, 2) := by decide +kernel
theorem d_P_load_35 : decode b_P_load 35 = .ok (.invokespecial 89, 3) := by decide +kernel
theorem d_P_load_38 : decode b_P_load 38 = .ok (.athrow, 1) := by decide +kernel
theorem d_P_load_39 : decode b_P_load 39 = .ok (.aload_n 0, 1) := by decide +kernel
theorem d_P_load_40 : decode b_P_load 40 = .ok (.getfield 26, 3) := by decide +kernel
theorem d_P_load_43 : decode b_P_load 43 = .ok (.aload_n 0, 1) := by decide +kernel
theorem d_P_load_44 : decode b_P_load 44 = .ok (.getfield 10, 3) := by decide +kernel
theorem d_P_load_47 : decode b_P_load 47 = .ok (.getfield 176, 3) := by decide +kernel
theorem d_P_load_50 : decode b_P_load 50 = .ok (.iload_n 1, 1) := by decide +kernel
theorem d_P_load_51 : decode b_P_load 51 = .ok (.iaload, 1) := by decide +kernel
theorem d_P_load_52 : decode b_P_load 52 = .ok (.invokevirtual 179, 3) := by decide +kernel
theorem d_P_load_55 : decode b_P_load 55 = .ok (.istore_n 2, 1) := by decide +kernel
theorem d_P_load_56 : decode b_P_load 56 = .ok (.iload_n 2, 1) := by decide +kernel
theorem d_P_load_57 : decode b_P_load 57 = .ok (.iconst (-1), 1) := by decide +kernel
theorem d_P_load_58 : decode b_P_load 58 = .ok (.if_icmp .ne 13, 3) := by decide +kernel
theorem d_P_load_61 : decode b_P_load 61 = .ok (.new 69, 3) := by decide +kernel
theorem d_P_load_64 : decode b_P_load 64 = .ok (.dup, 1) := by decide +kernel
theorem d_P_load_65 : decode b_P_load 65 = .ok (.ldc 182, 2) := by decide +kernel
theorem d_P_load_67 : decode b_P_load 67 = .ok (.invokespecial 73, 3) := by decide +kernel
theorem d_P_load_70 : decode b_P_load 70 = .ok (.athrow, 1) := by decide +kernel
theorem d_P_load_71 : decode b_P_load 71 = .ok (.aload_n 0, 1) := by decide +kernel
theorem d_P_load_72 : decode b_P_load 72 = .ok (.getfield 26, 3) := by decide +kernel
theorem d_P_load_75 : decode b_P_load 75 = .ok (.iload_n 2, 1) := by decide +kernel
theorem d_P_load_76 : decode b_P_load 76 = .ok (.iload_n 1, 1) := by decide +kernel
theorem d_P_load_77 : decode b_P_load 77 = .ok (.aload_n 0, 1) := by decide +kernel
theorem d_P_load_78 : decode b_P_load 78 = .ok (.getfield 10, 3) := by decide +kernel
theorem d_P_load_81 : decode b_P_load 81 = .ok (.getfield 176, 3) := by decide +kernel
theorem d_P_load_84 : decode b_P_load 84 = .ok (.iload_n 1, 1) := by decide +kernel
theorem d_P_load_85 : decode b_P_load 85 = .ok (.iaload, 1) := by decide +kernel
theorem d_P_load_86 : decode b_P_load 86 = .ok (.invokevirtual 184, 3) := by decide +kernel
theorem d_P_load_89 : decode b_P_load 89 = .ok (.iload_n 2, 1) := by decide +kernel
theorem d_P_load_90 : decode b_P_load 90 = .ok (.ireturn, 1) := by decide +kernel
theorem d_P_checkPiece_0 : decode b_P_checkPiece 0 = .ok (.aload_n 0, 1) := by decide +kernel
theorem d_P_checkPiece_1 : decode b_P_checkPiece 1 = .ok (.getfield 10, 3) := by decide +kernel
theorem d_P_checkPiece_4 : decode b_P_checkPiece 4 = .ok (.iload_n 1, 1) := by decide +kernel
theorem d_P_checkPiece_5 : decode b_P_checkPiece 5 = .ok (.invokevirtual 188, 3) := by decide +kernel
theorem d_P_checkPiece_8 : decode b_P_checkPiece 8 = .ok (.ifCond .ne 13, 3) := by decide +kernel
theorem d_P_checkPiece_11 : decode b_P_checkPiece 11 = .ok (.new 54, 3) := by decide +kernel
theorem d_P_checkPiece_14 : decode b_P_checkPiece 14 = .ok (.dup, 1) := by decide +kernel
theorem d_P_checkPiece_15 : decode b_P_checkPiece 15 = .ok (.ldc 191, 2) := by decide +kernel
theorem d_P_checkPiece_17 : decode b_P_checkPiece 17 = .ok (.invokespecial 58, 3) := by decide +kernel
theorem d_P_checkPiece_20 : decode b_P_checkPiece 20 = .ok (.athrow, 1) := by decide +kernel
theorem d_P_checkPiece_21 : decode b_P_checkPiece 21 = .ok (.return_, 1) := by decide +kernel
theorem d_P_checkPlan_0 : decode b_P_checkPlan 0 = .ok (.aload_n 0, 1) := by decide +kernel
theorem d_P_checkPlan_1 : decode b_P_checkPlan 1 = .ok (.getfield 19, 3) := by decide +kernel
theorem d_P_checkPlan_4 : decode b_P_checkPlan 4 = .ok (.getfield 193, 3) := by decide +kernel
theorem d_P_checkPlan_7 : decode b_P_checkPlan 7 = .ok (.ifCond .ne 13, 3) := by decide +kernel
theorem d_P_checkPlan_10 : decode b_P_checkPlan 10 = .ok (.new 85, 3) := by decide +kernel
theorem d_P_checkPlan_13 : decode b_P_checkPlan 13 = .ok (.dup, 1) := by decide +kernel
theorem d_P_checkPlan_14 : decode b_P_checkPlan 14 = .ok (.ldc 196, 2) := by decide +kernel
theorem d_P_checkPlan_16 : decode b_P_checkPlan 16 = .ok (.invokespecial 89, 3) := by decide +kernel
theorem d_P_checkPlan_19 : decode b_P_checkPlan 19 = .ok (.athrow, 1) := by decide +kernel
theorem d_P_checkPlan_20 : decode b_P_checkPlan 20 = .ok (.return_, 1) := by decide +kernel
theorem d_P_isWithin_0 : decode b_P_isWithin 0 = .ok (.iload_n 0, 1) := by decide +kernel
theorem d_P_isWithin_1 : decode b_P_isWithin 1 = .ok (.iload_n 1, 1) := by decide +kernel
theorem d_P_isWithin_2 : decode b_P_isWithin 2 = .ok (.if_icmp .lt 12, 3) := by decide +kernel
theorem d_P_isWithin_5 : decode b_P_isWithin 5 = .ok (.iload_n 0, 1) := by decide +kernel
theorem d_P_isWithin_6 : decode b_P_isWithin 6 = .ok (.iload_n 2, 1) := by decide +kernel
theorem d_P_isWithin_7 : decode b_P_isWithin 7 = .ok (.if_icmp .gt 7, 3) := by decide +kernel
theorem d_P_isWithin_10 : decode b_P_isWithin 10 = .ok (.iconst 1, 1) := by decide +kernel
theorem d_P_isWithin_11 : decode b_P_isWithin 11 = .ok (.goto 4, 3) := by decide +kernel
theorem d_P_isWithin_14 : decode b_P_isWithin 14 = .ok (.iconst 0, 1) := by decide +kernel
theorem d_P_isWithin_15 : decode b_P_isWithin 15 = .ok (.ireturn, 1) := by decide +kernel
theorem d_M_init_0 : decode b_M_init 0 = .ok (.aload_n 0, 1) := by decide +kernel
theorem d_M_init_1 : decode b_M_init 1 = .ok (.invokespecial 1, 3) := by decide +kernel
theorem d_M_init_4 : decode b_M_init 4 = .ok (.aload_n 0, 1) := by decide +kernel
theorem d_M_init_5 : decode b_M_init 5 = .ok (.iconst 2, 1) := by decide +kernel
theorem d_M_init_6 : decode b_M_init 6 = .ok (.putfield 7, 3) := by decide +kernel
theorem d_M_init_9 : decode b_M_init 9 = .ok (.aload_n 0, 1) := by decide +kernel
theorem d_M_init_10 : decode b_M_init 10 = .ok (.iconst 4, 1) := by decide +kernel
theorem d_M_init_11 : decode b_M_init 11 = .ok (.putfield 13, 3) := by decide +kernel
theorem d_M_init_14 : decode b_M_init 14 = .ok (.aload_n 0, 1) := by decide +kernel
theorem d_M_init_15 : decode b_M_init 15 = .ok (.bipush 10, 2) := by decide +kernel
theorem d_M_init_17 : decode b_M_init 17 = .ok (.newarray .int, 2) := by decide +kernel
theorem d_M_init_19 : decode b_M_init 19 = .ok (.putfield 16, 3) := by decide +kernel
theorem d_M_init_22 : decode b_M_init 22 = .ok (.aload_n 0, 1) := by decide +kernel
theorem d_M_init_23 : decode b_M_init 23 = .ok (.bipush 10, 2) := by decide +kernel
theorem d_M_init_25 : decode b_M_init 25 = .ok (.newarray .int, 2) := by decide +kernel
theorem d_M_init_27 : decode b_M_init 27 = .ok (.putfield 20, 3) := by decide +kernel
theorem d_M_init_30 : decode b_M_init 30 = .ok (.aload_n 0, 1) := by decide +kernel
theorem d_M_init_31 : decode b_M_init 31 = .ok (.bipush 10, 2) := by decide +kernel
theorem d_M_init_33 : decode b_M_init 33 = .ok (.newarray .int, 2) := by decide +kernel
theorem d_M_init_35 : decode b_M_init 35 = .ok (.putfield 23, 3) := by decide +kernel
theorem d_M_init_38 : decode b_M_init 38 = .ok (.aload_n 0, 1) := by decide +kernel
theorem d_M_init_39 : decode b_M_init 39 = .ok (.bipush 10, 2) := by decide +kernel
theorem d_M_init_41 : decode b_M_init 41 = .ok (.newarray .int, 2) := by decide +kernel
theorem d_M_init_43 : decode b_M_init 43 = .ok (.putfield 26, 3) := by decide +kernel
theorem d_M_init_46 : decode b_M_init 46 = .ok (.aload_n 0, 1) := by decide +kernel
theorem d_M_init_47 : decode b_M_init 47 = .ok (.sipush 300, 3) := by decide +kernel
theorem d_M_init_50 : decode b_M_init 50 = .ok (.newarray .int, 2) := by decide +kernel
theorem d_M_init_52 : decode b_M_init 52 = .ok (.putfield 29, 3) := by decide +kernel
theorem d_M_init_55 : decode b_M_init 55 = .ok (.aload_n 0, 1) := by decide +kernel
theorem d_M_init_56 : decode b_M_init 56 = .ok (.bipush 60, 2) := by decide +kernel
theorem d_M_init_58 : decode b_M_init 58 = .ok (.newarray .int, 2) := by decide +kernel
theorem d_M_init_60 : decode b_M_init 60 = .ok (.putfield 32, 3) := by decide +kernel
theorem d_M_init_63 : decode b_M_init 63 = .ok (.aload_n 0, 1) := by decide +kernel
theorem d_M_init_64 : decode b_M_init 64 = .ok (.bipush 15, 2) := by decide +kernel
theorem d_M_init_66 : decode b_M_init 66 = .ok (.newarray .int, 2) := by decide +kernel
theorem d_M_init_68 : decode b_M_init 68 = .ok (.putfield 35, 3) := by decide +kernel
theorem d_M_init_71 : decode b_M_init 71 = .ok (.aload_n 0, 1) := by decide +kernel
theorem d_M_init_72 : decode b_M_init 72 = .ok (.bipush 15, 2) := by decide +kernel
theorem d_M_init_74 : decode b_M_init 74 = .ok (.newarray .int, 2) := by decide +kernel
theorem d_M_init_76 : decode b_M_init 76 = .ok (.putfield 38, 3) := by decide +kernel
theorem d_M_init_79 : decode b_M_init 79 = .ok (.aload_n 0, 1) := by decide +kernel
theorem d_M_init_80 : decode b_M_init 80 = .ok (.bipush 40, 2) := by decide +kernel
theorem d_M_init_82 : decode b_M_init 82 = .ok (.newarray .int, 2) := by decide +kernel
theorem d_M_init_84 : decode b_M_init 84 = .ok (.putfield 41, 3) := by decide +kernel
theorem d_M_init_87 : decode b_M_init 87 = .ok (.aload_n 0, 1) := by decide +kernel
theorem d_M_init_88 : decode b_M_init 88 = .ok (.bipush 40, 2) := by decide +kernel
theorem d_M_init_90 : decode b_M_init 90 = .ok (.newarray .int, 2) := by decide +kernel
theorem d_M_init_92 : decode b_M_init 92 = .ok (.putfield 44, 3) := by decide +kernel
theorem d_M_init_95 : decode b_M_init 95 = .ok (.aload_n 0, 1) := by decide +kernel
theorem d_M_init_96 : decode b_M_init 96 = .ok (.bipush 15, 2) := by decide +kernel
theorem d_M_init_98 : decode b_M_init 98 = .ok (.newarray .int, 2) := by decide +kernel
theorem d_M_init_100 : decode b_M_init 100 = .ok (.putfield 47, 3) := by decide +kernel
theorem d_M_init_103 : decode b_M_init 103 = .ok (.aload_n 0, 1) := by decide +kernel
theorem d_M_init_104 : decode b_M_init 104 = .ok (.iconst 4, 1) := by decide +kernel
theorem d_M_init_105 : decode b_M_init 105 = .ok (.newarray .int, 2) := by decide +kernel
theorem d_M_init_107 : decode b_M_init 107 = .ok (.putfield 50, 3) := by decide +kernel
theorem d_M_init_110 : decode b_M_init 110 = .ok (.aload_n 0, 1) := by decide +kernel
theorem d_M_init_111 : decode b_M_init 111 = .ok (.iconst 4, 1) := by decide +kernel
theorem d_M_init_112 : decode b_M_init 112 = .ok (.newarray .int, 2) := by decide +kernel
theorem d_M_init_114 : decode b_M_init 114 = .ok (.putfield 53, 3) := by decide +kernel
theorem d_M_init_117 : decode b_M_init 117 = .ok (.return_, 1) := by decide +kernel
theorem d_M_thrown_0 : decode b_M_thrown 0 = .ok (.aload_n 0, 1) := by decide +kernel
theorem d_M_thrown_1 : decode b_M_thrown 1 = .ok (.getfield 56, 3) := by decide +kernel
theorem d_M_thrown_4 : decode b_M_thrown 4 = .ok (.ireturn, 1) := by decide +kernel
theorem d_M_in_0 : decode b_M_in 0 = .ok (.iload_n 0, 1) := by decide +kernel
theorem d_M_in_1 : decode b_M_in 1 = .ok (.iload_n 1, 1) := by decide +kernel
theorem d_M_in_2 : decode b_M_in 2 = .ok (.if_icmp .lt 12, 3) := by decide +kernel
