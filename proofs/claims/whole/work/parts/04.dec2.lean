theorem d_M_says_30 : decode b_M_says 30 = .ok (.iaload, 1) := by decide +kernel
theorem d_M_says_31 : decode b_M_says 31 = .ok (.iconst 1, 1) := by decide +kernel
theorem d_M_says_32 : decode b_M_says 32 = .ok (.iadd, 1) := by decide +kernel
theorem d_M_says_33 : decode b_M_says 33 = .ok (.iastore, 1) := by decide +kernel
theorem d_M_says_34 : decode b_M_says 34 = .ok (.return_, 1) := by decide +kernel
theorem d_M_topOf_0 : decode b_M_topOf 0 = .ok (.aload_n 0, 1) := by decide +kernel
theorem d_M_topOf_1 : decode b_M_topOf 1 = .ok (.getfield 32, 3) := by decide +kernel
theorem d_M_topOf_4 : decode b_M_topOf 4 = .ok (.iconst 4, 1) := by decide +kernel
theorem d_M_topOf_5 : decode b_M_topOf 5 = .ok (.iload_n 1, 1) := by decide +kernel
theorem d_M_topOf_6 : decode b_M_topOf 6 = .ok (.imul, 1) := by decide +kernel
theorem d_M_topOf_7 : decode b_M_topOf 7 = .ok (.iload_n 2, 1) := by decide +kernel
theorem d_M_topOf_8 : decode b_M_topOf 8 = .ok (.iadd, 1) := by decide +kernel
theorem d_M_topOf_9 : decode b_M_topOf 9 = .ok (.iaload, 1) := by decide +kernel
theorem d_M_topOf_10 : decode b_M_topOf 10 = .ok (.ifCond .ne 7, 3) := by decide +kernel
theorem d_M_topOf_13 : decode b_M_topOf 13 = .ok (.iconst (-1), 1) := by decide +kernel
theorem d_M_topOf_14 : decode b_M_topOf 14 = .ok (.goto 25, 3) := by decide +kernel
theorem d_M_topOf_17 : decode b_M_topOf 17 = .ok (.aload_n 0, 1) := by decide +kernel
theorem d_M_topOf_18 : decode b_M_topOf 18 = .ok (.getfield 29, 3) := by decide +kernel
theorem d_M_topOf_21 : decode b_M_topOf 21 = .ok (.iload_n 1, 1) := by decide +kernel
theorem d_M_topOf_22 : decode b_M_topOf 22 = .ok (.iload_n 2, 1) := by decide +kernel
theorem d_M_topOf_23 : decode b_M_topOf 23 = .ok (.aload_n 0, 1) := by decide +kernel
theorem d_M_topOf_24 : decode b_M_topOf 24 = .ok (.getfield 32, 3) := by decide +kernel
theorem d_M_topOf_27 : decode b_M_topOf 27 = .ok (.iconst 4, 1) := by decide +kernel
theorem d_M_topOf_28 : decode b_M_topOf 28 = .ok (.iload_n 1, 1) := by decide +kernel
theorem d_M_topOf_29 : decode b_M_topOf 29 = .ok (.imul, 1) := by decide +kernel
theorem d_M_topOf_30 : decode b_M_topOf 30 = .ok (.iload_n 2, 1) := by decide +kernel
theorem d_M_topOf_31 : decode b_M_topOf 31 = .ok (.iadd, 1) := by decide +kernel
theorem d_M_topOf_32 : decode b_M_topOf 32 = .ok (.iaload, 1) := by decide +kernel
theorem d_M_topOf_33 : decode b_M_topOf 33 = .ok (.iconst 1, 1) := by decide +kernel
theorem d_M_topOf_34 : decode b_M_topOf 34 = .ok (.isub, 1) := by decide +kernel
theorem d_M_topOf_35 : decode b_M_topOf 35 = .ok (.invokestatic 83, 3) := by decide +kernel
theorem d_M_topOf_38 : decode b_M_topOf 38 = .ok (.iaload, 1) := by decide +kernel
theorem d_M_topOf_39 : decode b_M_topOf 39 = .ok (.ireturn, 1) := by decide +kernel
theorem d_M_lift_0 : decode b_M_lift 0 = .ok (.aload_n 0, 1) := by decide +kernel
theorem d_M_lift_1 : decode b_M_lift 1 = .ok (.iload_n 1, 1) := by decide +kernel
theorem d_M_lift_2 : decode b_M_lift 2 = .ok (.iload_n 2, 1) := by decide +kernel
theorem d_M_lift_3 : decode b_M_lift 3 = .ok (.invokevirtual 109, 3) := by decide +kernel
theorem d_M_lift_6 : decode b_M_lift 6 = .ok (.istore 4, 2) := by decide +kernel
theorem d_M_lift_8 : decode b_M_lift 8 = .ok (.aload_n 0, 1) := by decide +kernel
theorem d_M_lift_9 : decode b_M_lift 9 = .ok (.getfield 32, 3) := by decide +kernel
theorem d_M_lift_12 : decode b_M_lift 12 = .ok (.iconst 4, 1) := by decide +kernel
theorem d_M_lift_13 : decode b_M_lift 13 = .ok (.iload_n 1, 1) := by decide +kernel
theorem d_M_lift_14 : decode b_M_lift 14 = .ok (.imul, 1) := by decide +kernel
theorem d_M_lift_15 : decode b_M_lift 15 = .ok (.iload_n 2, 1) := by decide +kernel
theorem d_M_lift_16 : decode b_M_lift 16 = .ok (.iadd, 1) := by decide +kernel
theorem d_M_lift_17 : decode b_M_lift 17 = .ok (.dup2, 1) := by decide +kernel
theorem d_M_lift_18 : decode b_M_lift 18 = .ok (.iaload, 1) := by decide +kernel
theorem d_M_lift_19 : decode b_M_lift 19 = .ok (.iconst 1, 1) := by decide +kernel
theorem d_M_lift_20 : decode b_M_lift 20 = .ok (.isub, 1) := by decide +kernel
theorem d_M_lift_21 : decode b_M_lift 21 = .ok (.iastore, 1) := by decide +kernel
theorem d_M_lift_22 : decode b_M_lift 22 = .ok (.aload_n 0, 1) := by decide +kernel
theorem d_M_lift_23 : decode b_M_lift 23 = .ok (.getfield 29, 3) := by decide +kernel
theorem d_M_lift_26 : decode b_M_lift 26 = .ok (.iload_n 1, 1) := by decide +kernel
theorem d_M_lift_27 : decode b_M_lift 27 = .ok (.iload_n 3, 1) := by decide +kernel
theorem d_M_lift_28 : decode b_M_lift 28 = .ok (.aload_n 0, 1) := by decide +kernel
theorem d_M_lift_29 : decode b_M_lift 29 = .ok (.getfield 32, 3) := by decide +kernel
theorem d_M_lift_32 : decode b_M_lift 32 = .ok (.iconst 4, 1) := by decide +kernel
theorem d_M_lift_33 : decode b_M_lift 33 = .ok (.iload_n 1, 1) := by decide +kernel
theorem d_M_lift_34 : decode b_M_lift 34 = .ok (.imul, 1) := by decide +kernel
theorem d_M_lift_35 : decode b_M_lift 35 = .ok (.iload_n 3, 1) := by decide +kernel
theorem d_M_lift_36 : decode b_M_lift 36 = .ok (.iadd, 1) := by decide +kernel
theorem d_M_lift_37 : decode b_M_lift 37 = .ok (.iaload, 1) := by decide +kernel
theorem d_M_lift_38 : decode b_M_lift 38 = .ok (.invokestatic 83, 3) := by decide +kernel
theorem d_M_lift_41 : decode b_M_lift 41 = .ok (.iload 4, 2) := by decide +kernel
theorem d_M_lift_43 : decode b_M_lift 43 = .ok (.iastore, 1) := by decide +kernel
theorem d_M_lift_44 : decode b_M_lift 44 = .ok (.aload_n 0, 1) := by decide +kernel
theorem d_M_lift_45 : decode b_M_lift 45 = .ok (.getfield 32, 3) := by decide +kernel
theorem d_M_lift_48 : decode b_M_lift 48 = .ok (.iconst 4, 1) := by decide +kernel
theorem d_M_lift_49 : decode b_M_lift 49 = .ok (.iload_n 1, 1) := by decide +kernel
theorem d_M_lift_50 : decode b_M_lift 50 = .ok (.imul, 1) := by decide +kernel
theorem d_M_lift_51 : decode b_M_lift 51 = .ok (.iload_n 3, 1) := by decide +kernel
theorem d_M_lift_52 : decode b_M_lift 52 = .ok (.iadd, 1) := by decide +kernel
theorem d_M_lift_53 : decode b_M_lift 53 = .ok (.dup2, 1) := by decide +kernel
theorem d_M_lift_54 : decode b_M_lift 54 = .ok (.iaload, 1) := by decide +kernel
theorem d_M_lift_55 : decode b_M_lift 55 = .ok (.iconst 1, 1) := by decide +kernel
theorem d_M_lift_56 : decode b_M_lift 56 = .ok (.iadd, 1) := by decide +kernel
theorem d_M_lift_57 : decode b_M_lift 57 = .ok (.iastore, 1) := by decide +kernel
theorem d_M_lift_58 : decode b_M_lift 58 = .ok (.return_, 1) := by decide +kernel
theorem d_M_nextWanted_0 : decode b_M_nextWanted 0 = .ok (.iconst (-1), 1) := by decide +kernel
theorem d_M_nextWanted_1 : decode b_M_nextWanted 1 = .ok (.istore_n 2, 1) := by decide +kernel
theorem d_M_nextWanted_2 : decode b_M_nextWanted 2 = .ok (.iconst 0, 1) := by decide +kernel
theorem d_M_nextWanted_3 : decode b_M_nextWanted 3 = .ok (.istore_n 3, 1) := by decide +kernel
theorem d_M_nextWanted_4 : decode b_M_nextWanted 4 = .ok (.iload_n 3, 1) := by decide +kernel
theorem d_M_nextWanted_5 : decode b_M_nextWanted 5 = .ok (.aload_n 0, 1) := by decide +kernel
theorem d_M_nextWanted_6 : decode b_M_nextWanted 6 = .ok (.getfield 59, 3) := by decide +kernel
theorem d_M_nextWanted_9 : decode b_M_nextWanted 9 = .ok (.if_icmp .ge 42, 3) := by decide +kernel
theorem d_M_nextWanted_12 : decode b_M_nextWanted 12 = .ok (.aload_n 0, 1) := by decide +kernel
theorem d_M_nextWanted_13 : decode b_M_nextWanted 13 = .ok (.iload_n 1, 1) := by decide +kernel
theorem d_M_nextWanted_14 : decode b_M_nextWanted 14 = .ok (.iload_n 3, 1) := by decide +kernel
theorem d_M_nextWanted_15 : decode b_M_nextWanted 15 = .ok (.invokevirtual 94, 3) := by decide +kernel
theorem d_M_nextWanted_18 : decode b_M_nextWanted 18 = .ok (.ifCond .ne 27, 3) := by decide +kernel
theorem d_M_nextWanted_21 : decode b_M_nextWanted 21 = .ok (.aload_n 0, 1) := by decide +kernel
theorem d_M_nextWanted_22 : decode b_M_nextWanted 22 = .ok (.getfield 23, 3) := by decide +kernel
theorem d_M_nextWanted_25 : decode b_M_nextWanted 25 = .ok (.iload_n 3, 1) := by decide +kernel
theorem d_M_nextWanted_26 : decode b_M_nextWanted 26 = .ok (.iaload, 1) := by decide +kernel
theorem d_M_nextWanted_27 : decode b_M_nextWanted 27 = .ok (.ifCond .lt 18, 3) := by decide +kernel
theorem d_M_nextWanted_30 : decode b_M_nextWanted 30 = .ok (.iload_n 2, 1) := by decide +kernel
theorem d_M_nextWanted_31 : decode b_M_nextWanted 31 = .ok (.ifCond .lt 12, 3) := by decide +kernel
theorem d_M_nextWanted_34 : decode b_M_nextWanted 34 = .ok (.aload_n 0, 1) := by decide +kernel
theorem d_M_nextWanted_35 : decode b_M_nextWanted 35 = .ok (.iload_n 3, 1) := by decide +kernel
theorem d_M_nextWanted_36 : decode b_M_nextWanted 36 = .ok (.iload_n 2, 1) := by decide +kernel
theorem d_M_nextWanted_37 : decode b_M_nextWanted 37 = .ok (.invokevirtual 98, 3) := by decide +kernel
theorem d_M_nextWanted_40 : decode b_M_nextWanted 40 = .ok (.ifCond .eq 5, 3) := by decide +kernel
theorem d_M_nextWanted_43 : decode b_M_nextWanted 43 = .ok (.iload_n 3, 1) := by decide +kernel
theorem d_M_nextWanted_44 : decode b_M_nextWanted 44 = .ok (.istore_n 2, 1) := by decide +kernel
theorem d_M_nextWanted_45 : decode b_M_nextWanted 45 = .ok (.iinc 3 1, 3) := by decide +kernel
theorem d_M_nextWanted_48 : decode b_M_nextWanted 48 = .ok (.goto (-44), 3) := by decide +kernel
theorem d_M_nextWanted_51 : decode b_M_nextWanted 51 = .ok (.iload_n 2, 1) := by decide +kernel
theorem d_M_nextWanted_52 : decode b_M_nextWanted 52 = .ok (.ireturn, 1) := by decide +kernel
theorem d_M_leaves_0 : decode b_M_leaves 0 = .ok (.aload_n 0, 1) := by decide +kernel
theorem d_M_leaves_1 : decode b_M_leaves 1 = .ok (.iload_n 1, 1) := by decide +kernel
theorem d_M_leaves_2 : decode b_M_leaves 2 = .ok (.invokevirtual 113, 3) := by decide +kernel
theorem d_M_leaves_5 : decode b_M_leaves 5 = .ok (.istore_n 2, 1) := by decide +kernel
theorem d_M_leaves_6 : decode b_M_leaves 6 = .ok (.iload_n 2, 1) := by decide +kernel
theorem d_M_leaves_7 : decode b_M_leaves 7 = .ok (.ifCond .ge 5, 3) := by decide +kernel
theorem d_M_leaves_10 : decode b_M_leaves 10 = .ok (.iconst 1, 1) := by decide +kernel
theorem d_M_leaves_11 : decode b_M_leaves 11 = .ok (.ireturn, 1) := by decide +kernel
theorem d_M_leaves_12 : decode b_M_leaves 12 = .ok (.iconst (-1), 1) := by decide +kernel
theorem d_M_leaves_13 : decode b_M_leaves 13 = .ok (.istore_n 3, 1) := by decide +kernel
theorem d_M_leaves_14 : decode b_M_leaves 14 = .ok (.iconst 0, 1) := by decide +kernel
theorem d_M_leaves_15 : decode b_M_leaves 15 = .ok (.istore 4, 2) := by decide +kernel
theorem d_M_leaves_17 : decode b_M_leaves 17 = .ok (.iload 4, 2) := by decide +kernel
theorem d_M_leaves_19 : decode b_M_leaves 19 = .ok (.aload_n 0, 1) := by decide +kernel
theorem d_M_leaves_20 : decode b_M_leaves 20 = .ok (.getfield 7, 3) := by decide +kernel
theorem d_M_leaves_23 : decode b_M_leaves 23 = .ok (.if_icmp .ge 23, 3) := by decide +kernel
theorem d_M_leaves_26 : decode b_M_leaves 26 = .ok (.aload_n 0, 1) := by decide +kernel
theorem d_M_leaves_27 : decode b_M_leaves 27 = .ok (.iload_n 1, 1) := by decide +kernel
theorem d_M_leaves_28 : decode b_M_leaves 28 = .ok (.iload 4, 2) := by decide +kernel
theorem d_M_leaves_30 : decode b_M_leaves 30 = .ok (.invokevirtual 109, 3) := by decide +kernel
theorem d_M_leaves_33 : decode b_M_leaves 33 = .ok (.iload_n 2, 1) := by decide +kernel
theorem d_M_leaves_34 : decode b_M_leaves 34 = .ok (.if_icmp .ne 6, 3) := by decide +kernel
theorem d_M_leaves_37 : decode b_M_leaves 37 = .ok (.iload 4, 2) := by decide +kernel
theorem d_M_leaves_39 : decode b_M_leaves 39 = .ok (.istore_n 3, 1) := by decide +kernel
theorem d_M_leaves_40 : decode b_M_leaves 40 = .ok (.iinc 4 1, 3) := by decide +kernel
theorem d_M_leaves_43 : decode b_M_leaves 43 = .ok (.goto (-26), 3) := by decide +kernel
theorem d_M_leaves_46 : decode b_M_leaves 46 = .ok (.iload_n 3, 1) := by decide +kernel
theorem d_M_leaves_47 : decode b_M_leaves 47 = .ok (.ifCond .ge 5, 3) := by decide +kernel
theorem d_M_leaves_50 : decode b_M_leaves 50 = .ok (.iconst 0, 1) := by decide +kernel
theorem d_M_leaves_51 : decode b_M_leaves 51 = .ok (.ireturn, 1) := by decide +kernel
theorem d_M_leaves_52 : decode b_M_leaves 52 = .ok (.aload_n 0, 1) := by decide +kernel
theorem d_M_leaves_53 : decode b_M_leaves 53 = .ok (.getfield 32, 3) := by decide +kernel
theorem d_M_leaves_56 : decode b_M_leaves 56 = .ok (.iconst 4, 1) := by decide +kernel
theorem d_M_leaves_57 : decode b_M_leaves 57 = .ok (.iload_n 1, 1) := by decide +kernel
theorem d_M_leaves_58 : decode b_M_leaves 58 = .ok (.imul, 1) := by decide +kernel
theorem d_M_leaves_59 : decode b_M_leaves 59 = .ok (.iload_n 3, 1) := by decide +kernel
theorem d_M_leaves_60 : decode b_M_leaves 60 = .ok (.iadd, 1) := by decide +kernel
theorem d_M_leaves_61 : decode b_M_leaves 61 = .ok (.dup2, 1) := by decide +kernel
theorem d_M_leaves_62 : decode b_M_leaves 62 = .ok (.iaload, 1) := by decide +kernel
theorem d_M_leaves_63 : decode b_M_leaves 63 = .ok (.iconst 1, 1) := by decide +kernel
theorem d_M_leaves_64 : decode b_M_leaves 64 = .ok (.isub, 1) := by decide +kernel
theorem d_M_leaves_65 : decode b_M_leaves 65 = .ok (.iastore, 1) := by decide +kernel
theorem d_M_leaves_66 : decode b_M_leaves 66 = .ok (.aload_n 0, 1) := by decide +kernel
theorem d_M_leaves_67 : decode b_M_leaves 67 = .ok (.getfield 35, 3) := by decide +kernel
theorem d_M_leaves_70 : decode b_M_leaves 70 = .ok (.iload_n 1, 1) := by decide +kernel
theorem d_M_leaves_71 : decode b_M_leaves 71 = .ok (.aload_n 0, 1) := by decide +kernel
theorem d_M_leaves_72 : decode b_M_leaves 72 = .ok (.getfield 35, 3) := by decide +kernel
theorem d_M_leaves_75 : decode b_M_leaves 75 = .ok (.iload_n 1, 1) := by decide +kernel
theorem d_M_leaves_76 : decode b_M_leaves 76 = .ok (.iaload, 1) := by decide +kernel
theorem d_M_leaves_77 : decode b_M_leaves 77 = .ok (.iconst 1, 1) := by decide +kernel
theorem d_M_leaves_78 : decode b_M_leaves 78 = .ok (.iload_n 2, 1) := by decide +kernel
theorem d_M_leaves_79 : decode b_M_leaves 79 = .ok (.ishl, 1) := by decide +kernel
theorem d_M_leaves_80 : decode b_M_leaves 80 = .ok (.ior, 1) := by decide +kernel
theorem d_M_leaves_81 : decode b_M_leaves 81 = .ok (.iastore, 1) := by decide +kernel
theorem d_M_leaves_82 : decode b_M_leaves 82 = .ok (.aload_n 0, 1) := by decide +kernel
theorem d_M_leaves_83 : decode b_M_leaves 83 = .ok (.iload_n 1, 1) := by decide +kernel
theorem d_M_leaves_84 : decode b_M_leaves 84 = .ok (.iload_n 2, 1) := by decide +kernel
theorem d_M_leaves_85 : decode b_M_leaves 85 = .ok (.iconst (-1), 1) := by decide +kernel
theorem d_M_leaves_86 : decode b_M_leaves 86 = .ok (.invokevirtual 116, 3) := by decide +kernel
theorem d_M_leaves_89 : decode b_M_leaves 89 = .ok (.goto (-89), 3) := by decide +kernel
theorem d_M_round_0 : decode b_M_round 0 = .ok (.iload_n 2, 1) := by decide +kernel
theorem d_M_round_1 : decode b_M_round 1 = .ok (.istore_n 3, 1) := by decide +kernel
theorem d_M_round_2 : decode b_M_round 2 = .ok (.iconst 1, 1) := by decide +kernel
theorem d_M_round_3 : decode b_M_round 3 = .ok (.istore 4, 2) := by decide +kernel
theorem d_M_round_5 : decode b_M_round 5 = .ok (.aload_n 0, 1) := by decide +kernel
theorem d_M_round_6 : decode b_M_round 6 = .ok (.iconst 0, 1) := by decide +kernel
theorem d_M_round_7 : decode b_M_round 7 = .ok (.iconst 1, 1) := by decide +kernel
theorem d_M_round_8 : decode b_M_round 8 = .ok (.invokevirtual 120, 3) := by decide +kernel
theorem d_M_round_11 : decode b_M_round 11 = .ok (.aload_n 0, 1) := by decide +kernel
theorem d_M_round_12 : decode b_M_round 12 = .ok (.getfield 47, 3) := by decide +kernel
theorem d_M_round_15 : decode b_M_round 15 = .ok (.iconst 1, 1) := by decide +kernel
theorem d_M_round_16 : decode b_M_round 16 = .ok (.iconst 0, 1) := by decide +kernel
theorem d_M_round_17 : decode b_M_round 17 = .ok (.iastore, 1) := by decide +kernel
theorem d_M_round_18 : decode b_M_round 18 = .ok (.aload_n 0, 1) := by decide +kernel
theorem d_M_round_19 : decode b_M_round 19 = .ok (.iconst 1, 1) := by decide +kernel
theorem d_M_round_20 : decode b_M_round 20 = .ok (.invokevirtual 124, 3) := by decide +kernel
theorem d_M_round_23 : decode b_M_round 23 = .ok (.ifCond .eq 20, 3) := by decide +kernel
theorem d_M_round_26 : decode b_M_round 26 = .ok (.aload_n 0, 1) := by decide +kernel
theorem d_M_round_27 : decode b_M_round 27 = .ok (.iconst 1, 1) := by decide +kernel
theorem d_M_round_28 : decode b_M_round 28 = .ok (.putfield 70, 3) := by decide +kernel
theorem d_M_round_31 : decode b_M_round 31 = .ok (.aload_n 0, 1) := by decide +kernel
theorem d_M_round_32 : decode b_M_round 32 = .ok (.aload_n 0, 1) := by decide +kernel
theorem d_M_round_33 : decode b_M_round 33 = .ok (.getfield 47, 3) := by decide +kernel
theorem d_M_round_36 : decode b_M_round 36 = .ok (.iconst 1, 1) := by decide +kernel
theorem d_M_round_37 : decode b_M_round 37 = .ok (.iaload, 1) := by decide +kernel
theorem d_M_round_38 : decode b_M_round 38 = .ok (.putfield 127, 3) := by decide +kernel
theorem d_M_round_41 : decode b_M_round 41 = .ok (.iload_n 3, 1) := by decide +kernel
theorem d_M_round_42 : decode b_M_round 42 = .ok (.ireturn, 1) := by decide +kernel
theorem d_M_round_43 : decode b_M_round 43 = .ok (.aload_n 0, 1) := by decide +kernel
theorem d_M_round_44 : decode b_M_round 44 = .ok (.getfield 38, 3) := by decide +kernel
theorem d_M_round_47 : decode b_M_round 47 = .ok (.iconst 1, 1) := by decide +kernel
theorem d_M_round_48 : decode b_M_round 48 = .ok (.iconst 0, 1) := by decide +kernel
theorem d_M_round_49 : decode b_M_round 49 = .ok (.iastore, 1) := by decide +kernel
theorem d_M_round_50 : decode b_M_round 50 = .ok (.iload 4, 2) := by decide +kernel
theorem d_M_round_52 : decode b_M_round 52 = .ok (.ifCond .le 232, 3) := by decide +kernel
theorem d_M_round_55 : decode b_M_round 55 = .ok (.aload_n 0, 1) := by decide +kernel
theorem d_M_round_56 : decode b_M_round 56 = .ok (.getfield 38, 3) := by decide +kernel
theorem d_M_round_59 : decode b_M_round 59 = .ok (.iload 4, 2) := by decide +kernel
theorem d_M_round_61 : decode b_M_round 61 = .ok (.iaload, 1) := by decide +kernel
theorem d_M_round_62 : decode b_M_round 62 = .ok (.istore 5, 2) := by decide +kernel
theorem d_M_round_64 : decode b_M_round 64 = .ok (.iload 5, 2) := by decide +kernel
theorem d_M_round_66 : decode b_M_round 66 = .ok (.aload_n 0, 1) := by decide +kernel
theorem d_M_round_67 : decode b_M_round 67 = .ok (.getfield 7, 3) := by decide +kernel
theorem d_M_round_70 : decode b_M_round 70 = .ok (.aload_n 0, 1) := by decide +kernel
theorem d_M_round_71 : decode b_M_round 71 = .ok (.getfield 7, 3) := by decide +kernel
theorem d_M_round_74 : decode b_M_round 74 = .ok (.imul, 1) := by decide +kernel
theorem d_M_round_75 : decode b_M_round 75 = .ok (.if_icmp .ne 20, 3) := by decide +kernel
theorem d_M_round_78 : decode b_M_round 78 = .ok (.iinc 4 (-1), 3) := by decide +kernel
theorem d_M_round_81 : decode b_M_round 81 = .ok (.aload_n 0, 1) := by decide +kernel
theorem d_M_round_82 : decode b_M_round 82 = .ok (.getfield 38, 3) := by decide +kernel
theorem d_M_round_85 : decode b_M_round 85 = .ok (.iload 4, 2) := by decide +kernel
theorem d_M_round_87 : decode b_M_round 87 = .ok (.dup2, 1) := by decide +kernel
theorem d_M_round_88 : decode b_M_round 88 = .ok (.iaload, 1) := by decide +kernel
theorem d_M_round_89 : decode b_M_round 89 = .ok (.iconst 1, 1) := by decide +kernel
theorem d_M_round_90 : decode b_M_round 90 = .ok (.iadd, 1) := by decide +kernel
theorem d_M_round_91 : decode b_M_round 91 = .ok (.iastore, 1) := by decide +kernel
theorem d_M_round_92 : decode b_M_round 92 = .ok (.goto (-42), 3) := by decide +kernel
theorem d_M_round_95 : decode b_M_round 95 = .ok (.iload 5, 2) := by decide +kernel
theorem d_M_round_97 : decode b_M_round 97 = .ok (.aload_n 0, 1) := by decide +kernel
theorem d_M_round_98 : decode b_M_round 98 = .ok (.getfield 7, 3) := by decide +kernel
theorem d_M_round_101 : decode b_M_round 101 = .ok (.idiv, 1) := by decide +kernel
theorem d_M_round_102 : decode b_M_round 102 = .ok (.istore 6, 2) := by decide +kernel
theorem d_M_round_104 : decode b_M_round 104 = .ok (.iload 5, 2) := by decide +kernel
theorem d_M_round_106 : decode b_M_round 106 = .ok (.aload_n 0, 1) := by decide +kernel
theorem d_M_round_107 : decode b_M_round 107 = .ok (.getfield 7, 3) := by decide +kernel
theorem d_M_round_110 : decode b_M_round 110 = .ok (.irem, 1) := by decide +kernel
theorem d_M_round_111 : decode b_M_round 111 = .ok (.istore 7, 2) := by decide +kernel
theorem d_M_round_113 : decode b_M_round 113 = .ok (.aload_n 0, 1) := by decide +kernel
theorem d_M_round_114 : decode b_M_round 114 = .ok (.iload 4, 2) := by decide +kernel
theorem d_M_round_116 : decode b_M_round 116 = .ok (.iload 6, 2) := by decide +kernel
theorem d_M_round_118 : decode b_M_round 118 = .ok (.invokevirtual 109, 3) := by decide +kernel
theorem d_M_round_121 : decode b_M_round 121 = .ok (.istore 8, 2) := by decide +kernel
theorem d_M_round_123 : decode b_M_round 123 = .ok (.iload 6, 2) := by decide +kernel
theorem d_M_round_125 : decode b_M_round 125 = .ok (.iload 7, 2) := by decide +kernel
theorem d_M_round_127 : decode b_M_round 127 = .ok (.if_icmp .eq 26, 3) := by decide +kernel
theorem d_M_round_130 : decode b_M_round 130 = .ok (.iload 8, 2) := by decide +kernel
theorem d_M_round_132 : decode b_M_round 132 = .ok (.ifCond .lt 21, 3) := by decide +kernel
theorem d_M_round_135 : decode b_M_round 135 = .ok (.aload_n 0, 1) := by decide +kernel
theorem d_M_round_136 : decode b_M_round 136 = .ok (.iload 4, 2) := by decide +kernel
theorem d_M_round_138 : decode b_M_round 138 = .ok (.iload 7, 2) := by decide +kernel
theorem d_M_round_140 : decode b_M_round 140 = .ok (.aload_n 0, 1) := by decide +kernel
theorem d_M_round_141 : decode b_M_round 141 = .ok (.getfield 20, 3) := by decide +kernel
theorem d_M_round_144 : decode b_M_round 144 = .ok (.iload 8, 2) := by decide +kernel
theorem d_M_round_146 : decode b_M_round 146 = .ok (.iaload, 1) := by decide +kernel
theorem d_M_round_147 : decode b_M_round 147 = .ok (.invokevirtual 87, 3) := by decide +kernel
theorem d_M_round_150 : decode b_M_round 150 = .ok (.ifCond .ne 17, 3) := by decide +kernel
theorem d_M_round_153 : decode b_M_round 153 = .ok (.aload_n 0, 1) := by decide +kernel
theorem d_M_round_154 : decode b_M_round 154 = .ok (.getfield 38, 3) := by decide +kernel
theorem d_M_round_157 : decode b_M_round 157 = .ok (.iload 4, 2) := by decide +kernel
theorem d_M_round_159 : decode b_M_round 159 = .ok (.dup2, 1) := by decide +kernel
theorem d_M_round_160 : decode b_M_round 160 = .ok (.iaload, 1) := by decide +kernel
theorem d_M_round_161 : decode b_M_round 161 = .ok (.iconst 1, 1) := by decide +kernel
theorem d_M_round_162 : decode b_M_round 162 = .ok (.iadd, 1) := by decide +kernel
theorem d_M_round_163 : decode b_M_round 163 = .ok (.iastore, 1) := by decide +kernel
theorem d_M_round_164 : decode b_M_round 164 = .ok (.goto (-114), 3) := by decide +kernel
theorem d_M_round_167 : decode b_M_round 167 = .ok (.iload_n 3, 1) := by decide +kernel
theorem d_M_round_168 : decode b_M_round 168 = .ok (.ifCond .ne 5, 3) := by decide +kernel
theorem d_M_round_171 : decode b_M_round 171 = .ok (.iconst (-1), 1) := by decide +kernel
theorem d_M_round_172 : decode b_M_round 172 = .ok (.ireturn, 1) := by decide +kernel
theorem d_M_round_173 : decode b_M_round 173 = .ok (.iinc 3 (-1), 3) := by decide +kernel
theorem d_M_round_176 : decode b_M_round 176 = .ok (.aload_n 0, 1) := by decide +kernel
theorem d_M_round_177 : decode b_M_round 177 = .ok (.iload 4, 2) := by decide +kernel
theorem d_M_round_179 : decode b_M_round 179 = .ok (.iload 4, 2) := by decide +kernel
theorem d_M_round_181 : decode b_M_round 181 = .ok (.iconst 1, 1) := by decide +kernel
theorem d_M_round_182 : decode b_M_round 182 = .ok (.iadd, 1) := by decide +kernel
theorem d_M_round_183 : decode b_M_round 183 = .ok (.invokevirtual 120, 3) := by decide +kernel
theorem d_M_round_186 : decode b_M_round 186 = .ok (.aload_n 0, 1) := by decide +kernel
theorem d_M_round_187 : decode b_M_round 187 = .ok (.iload 4, 2) := by decide +kernel
theorem d_M_round_189 : decode b_M_round 189 = .ok (.iconst 1, 1) := by decide +kernel
theorem d_M_round_190 : decode b_M_round 190 = .ok (.iadd, 1) := by decide +kernel
theorem d_M_round_191 : decode b_M_round 191 = .ok (.iload 6, 2) := by decide +kernel
theorem d_M_round_193 : decode b_M_round 193 = .ok (.iload 7, 2) := by decide +kernel
theorem d_M_round_195 : decode b_M_round 195 = .ok (.invokevirtual 130, 3) := by decide +kernel
theorem d_M_round_198 : decode b_M_round 198 = .ok (.aload_n 0, 1) := by decide +kernel
theorem d_M_round_199 : decode b_M_round 199 = .ok (.iload 4, 2) := by decide +kernel
theorem d_M_round_201 : decode b_M_round 201 = .ok (.iconst 1, 1) := by decide +kernel
theorem d_M_round_202 : decode b_M_round 202 = .ok (.iadd, 1) := by decide +kernel
theorem d_M_round_203 : decode b_M_round 203 = .ok (.iload 8, 2) := by decide +kernel
theorem d_M_round_205 : decode b_M_round 205 = .ok (.iload 7, 2) := by decide +kernel
theorem d_M_round_207 : decode b_M_round 207 = .ok (.invokevirtual 116, 3) := by decide +kernel
theorem d_M_round_210 : decode b_M_round 210 = .ok (.aload_n 0, 1) := by decide +kernel
theorem d_M_round_211 : decode b_M_round 211 = .ok (.iload 4, 2) := by decide +kernel
theorem d_M_round_213 : decode b_M_round 213 = .ok (.iconst 1, 1) := by decide +kernel
theorem d_M_round_214 : decode b_M_round 214 = .ok (.iadd, 1) := by decide +kernel
theorem d_M_round_215 : decode b_M_round 215 = .ok (.invokevirtual 124, 3) := by decide +kernel
theorem d_M_round_218 : decode b_M_round 218 = .ok (.ifCond .eq 23, 3) := by decide +kernel
theorem d_M_round_221 : decode b_M_round 221 = .ok (.aload_n 0, 1) := by decide +kernel
theorem d_M_round_222 : decode b_M_round 222 = .ok (.iconst 1, 1) := by decide +kernel
theorem d_M_round_223 : decode b_M_round 223 = .ok (.putfield 70, 3) := by decide +kernel
theorem d_M_round_226 : decode b_M_round 226 = .ok (.aload_n 0, 1) := by decide +kernel
theorem d_M_round_227 : decode b_M_round 227 = .ok (.aload_n 0, 1) := by decide +kernel
theorem d_M_round_228 : decode b_M_round 228 = .ok (.getfield 47, 3) := by decide +kernel
theorem d_M_round_231 : decode b_M_round 231 = .ok (.iload 4, 2) := by decide +kernel
theorem d_M_round_233 : decode b_M_round 233 = .ok (.iconst 1, 1) := by decide +kernel
theorem d_M_round_234 : decode b_M_round 234 = .ok (.iadd, 1) := by decide +kernel
theorem d_M_round_235 : decode b_M_round 235 = .ok (.iaload, 1) := by decide +kernel
theorem d_M_round_236 : decode b_M_round 236 = .ok (.putfield 127, 3) := by decide +kernel
theorem d_M_round_239 : decode b_M_round 239 = .ok (.iload_n 3, 1) := by decide +kernel
theorem d_M_round_240 : decode b_M_round 240 = .ok (.ireturn, 1) := by decide +kernel
theorem d_M_round_241 : decode b_M_round 241 = .ok (.iload 4, 2) := by decide +kernel
theorem d_M_round_243 : decode b_M_round 243 = .ok (.aload_n 0, 1) := by decide +kernel
theorem d_M_round_244 : decode b_M_round 244 = .ok (.iload 4, 2) := by decide +kernel
theorem d_M_round_246 : decode b_M_round 246 = .ok (.iconst 1, 1) := by decide +kernel
theorem d_M_round_247 : decode b_M_round 247 = .ok (.iadd, 1) := by decide +kernel
theorem d_M_round_248 : decode b_M_round 248 = .ok (.invokevirtual 105, 3) := by decide +kernel
theorem d_M_round_251 : decode b_M_round 251 = .ok (.iadd, 1) := by decide +kernel
theorem d_M_round_252 : decode b_M_round 252 = .ok (.iload_n 1, 1) := by decide +kernel
theorem d_M_round_253 : decode b_M_round 253 = .ok (.if_icmp .le 17, 3) := by decide +kernel
theorem d_M_round_256 : decode b_M_round 256 = .ok (.aload_n 0, 1) := by decide +kernel
theorem d_M_round_257 : decode b_M_round 257 = .ok (.getfield 38, 3) := by decide +kernel
theorem d_M_round_260 : decode b_M_round 260 = .ok (.iload 4, 2) := by decide +kernel
theorem d_M_round_262 : decode b_M_round 262 = .ok (.dup2, 1) := by decide +kernel
theorem d_M_round_263 : decode b_M_round 263 = .ok (.iaload, 1) := by decide +kernel
theorem d_M_round_264 : decode b_M_round 264 = .ok (.iconst 1, 1) := by decide +kernel
theorem d_M_round_265 : decode b_M_round 265 = .ok (.iadd, 1) := by decide +kernel
theorem d_M_round_266 : decode b_M_round 266 = .ok (.iastore, 1) := by decide +kernel
theorem d_M_round_267 : decode b_M_round 267 = .ok (.goto (-217), 3) := by decide +kernel
theorem d_M_round_270 : decode b_M_round 270 = .ok (.iinc 4 1, 3) := by decide +kernel
theorem d_M_round_273 : decode b_M_round 273 = .ok (.aload_n 0, 1) := by decide +kernel
theorem d_M_round_274 : decode b_M_round 274 = .ok (.getfield 38, 3) := by decide +kernel
theorem d_M_round_277 : decode b_M_round 277 = .ok (.iload 4, 2) := by decide +kernel
theorem d_M_round_279 : decode b_M_round 279 = .ok (.iconst 0, 1) := by decide +kernel
theorem d_M_round_280 : decode b_M_round 280 = .ok (.iastore, 1) := by decide +kernel
theorem d_M_round_281 : decode b_M_round 281 = .ok (.goto (-231), 3) := by decide +kernel
theorem d_M_round_284 : decode b_M_round 284 = .ok (.iload_n 3, 1) := by decide +kernel
theorem d_M_round_285 : decode b_M_round 285 = .ok (.ireturn, 1) := by decide +kernel
theorem d_M_run_0 : decode b_M_run 0 = .ok (.aload_n 0, 1) := by decide +kernel
theorem d_M_run_1 : decode b_M_run 1 = .ok (.iload_n 1, 1) := by decide +kernel
theorem d_M_run_2 : decode b_M_run 2 = .ok (.iconst 0, 1) := by decide +kernel
theorem d_M_run_3 : decode b_M_run 3 = .ok (.ldc 133, 2) := by decide +kernel
theorem d_M_run_5 : decode b_M_run 5 = .ok (.invokestatic 62, 3) := by decide +kernel
theorem d_M_run_8 : decode b_M_run 8 = .ok (.iconst 1, 1) := by decide +kernel
theorem d_M_run_9 : decode b_M_run 9 = .ok (.iconst 1, 1) := by decide +kernel
theorem d_M_run_10 : decode b_M_run 10 = .ok (.invokevirtual 73, 3) := by decide +kernel
theorem d_M_run_13 : decode b_M_run 13 = .ok (.ifCond .ne 5, 3) := by decide +kernel
theorem d_M_run_16 : decode b_M_run 16 = .ok (.iconst 0, 1) := by decide +kernel
theorem d_M_run_17 : decode b_M_run 17 = .ok (.ireturn, 1) := by decide +kernel
theorem d_M_run_18 : decode b_M_run 18 = .ok (.aload_n 0, 1) := by decide +kernel
theorem d_M_run_19 : decode b_M_run 19 = .ok (.iconst 1, 1) := by decide +kernel
theorem d_M_run_20 : decode b_M_run 20 = .ok (.putfield 66, 3) := by decide +kernel
theorem d_M_run_23 : decode b_M_run 23 = .ok (.aload_n 0, 1) := by decide +kernel
theorem d_M_run_24 : decode b_M_run 24 = .ok (.iconst 0, 1) := by decide +kernel
theorem d_M_run_25 : decode b_M_run 25 = .ok (.putfield 70, 3) := by decide +kernel
theorem d_M_run_28 : decode b_M_run 28 = .ok (.aload_n 0, 1) := by decide +kernel
theorem d_M_run_29 : decode b_M_run 29 = .ok (.iconst 0, 1) := by decide +kernel
theorem d_M_run_30 : decode b_M_run 30 = .ok (.putfield 134, 3) := by decide +kernel
theorem d_M_run_33 : decode b_M_run 33 = .ok (.iload_n 1, 1) := by decide +kernel
theorem d_M_run_34 : decode b_M_run 34 = .ok (.istore_n 2, 1) := by decide +kernel
theorem d_M_run_35 : decode b_M_run 35 = .ok (.aload_n 0, 1) := by decide +kernel
theorem d_M_run_36 : decode b_M_run 36 = .ok (.iconst 0, 1) := by decide +kernel
theorem d_M_run_37 : decode b_M_run 37 = .ok (.invokevirtual 105, 3) := by decide +kernel
theorem d_M_run_40 : decode b_M_run 40 = .ok (.istore_n 3, 1) := by decide +kernel
theorem d_M_run_41 : decode b_M_run 41 = .ok (.iload_n 3, 1) := by decide +kernel
theorem d_M_run_42 : decode b_M_run 42 = .ok (.bipush 12, 2) := by decide +kernel
theorem d_M_run_44 : decode b_M_run 44 = .ok (.if_icmp .gt 27, 3) := by decide +kernel
theorem d_M_run_47 : decode b_M_run 47 = .ok (.iload_n 2, 1) := by decide +kernel
theorem d_M_run_48 : decode b_M_run 48 = .ok (.ifCond .lt 23, 3) := by decide +kernel
theorem d_M_run_51 : decode b_M_run 51 = .ok (.aload_n 0, 1) := by decide +kernel
theorem d_M_run_52 : decode b_M_run 52 = .ok (.getfield 70, 3) := by decide +kernel
theorem d_M_run_55 : decode b_M_run 55 = .ok (.ifCond .ne 16, 3) := by decide +kernel
theorem d_M_run_58 : decode b_M_run 58 = .ok (.aload_n 0, 1) := by decide +kernel
theorem d_M_run_59 : decode b_M_run 59 = .ok (.iload_n 3, 1) := by decide +kernel
theorem d_M_run_60 : decode b_M_run 60 = .ok (.iload_n 2, 1) := by decide +kernel
theorem d_M_run_61 : decode b_M_run 61 = .ok (.invokevirtual 137, 3) := by decide +kernel
theorem d_M_run_64 : decode b_M_run 64 = .ok (.istore_n 2, 1) := by decide +kernel
theorem d_M_run_65 : decode b_M_run 65 = .ok (.iinc 3 1, 3) := by decide +kernel
theorem d_M_run_68 : decode b_M_run 68 = .ok (.goto (-27), 3) := by decide +kernel
theorem d_M_run_71 : decode b_M_run 71 = .ok (.aload_n 0, 1) := by decide +kernel
theorem d_M_run_72 : decode b_M_run 72 = .ok (.aload_n 0, 1) := by decide +kernel
theorem d_M_run_73 : decode b_M_run 73 = .ok (.getfield 70, 3) := by decide +kernel
theorem d_M_run_76 : decode b_M_run 76 = .ok (.ifCond .ne 7, 3) := by decide +kernel
theorem d_M_run_79 : decode b_M_run 79 = .ok (.iload_n 2, 1) := by decide +kernel
theorem d_M_run_80 : decode b_M_run 80 = .ok (.ifCond .lt 7, 3) := by decide +kernel
theorem d_M_run_83 : decode b_M_run 83 = .ok (.iconst 1, 1) := by decide +kernel
theorem d_M_run_84 : decode b_M_run 84 = .ok (.goto 4, 3) := by decide +kernel
theorem d_M_run_87 : decode b_M_run 87 = .ok (.iconst 0, 1) := by decide +kernel
theorem d_M_run_88 : decode b_M_run 88 = .ok (.putfield 134, 3) := by decide +kernel
theorem d_M_run_91 : decode b_M_run 91 = .ok (.aload_n 0, 1) := by decide +kernel
theorem d_M_run_92 : decode b_M_run 92 = .ok (.getfield 70, 3) := by decide +kernel
theorem d_M_run_95 : decode b_M_run 95 = .ok (.ifCond .ne 5, 3) := by decide +kernel
theorem d_M_run_98 : decode b_M_run 98 = .ok (.iconst (-1), 1) := by decide +kernel
theorem d_M_run_99 : decode b_M_run 99 = .ok (.ireturn, 1) := by decide +kernel
theorem d_M_run_100 : decode b_M_run 100 = .ok (.iconst 0, 1) := by decide +kernel
theorem d_M_run_101 : decode b_M_run 101 = .ok (.istore_n 3, 1) := by decide +kernel
theorem d_M_run_102 : decode b_M_run 102 = .ok (.iconst 0, 1) := by decide +kernel
theorem d_M_run_103 : decode b_M_run 103 = .ok (.istore 4, 2) := by decide +kernel
theorem d_M_run_105 : decode b_M_run 105 = .ok (.iload 4, 2) := by decide +kernel
theorem d_M_run_107 : decode b_M_run 107 = .ok (.aload_n 0, 1) := by decide +kernel
theorem d_M_run_108 : decode b_M_run 108 = .ok (.getfield 127, 3) := by decide +kernel
theorem d_M_run_111 : decode b_M_run 111 = .ok (.if_icmp .ge 22, 3) := by decide +kernel
theorem d_M_run_114 : decode b_M_run 114 = .ok (.aload_n 0, 1) := by decide +kernel
theorem d_M_run_115 : decode b_M_run 115 = .ok (.getfield 44, 3) := by decide +kernel
theorem d_M_run_118 : decode b_M_run 118 = .ok (.iload 4, 2) := by decide +kernel
theorem d_M_run_120 : decode b_M_run 120 = .ok (.iaload, 1) := by decide +kernel
theorem d_M_run_121 : decode b_M_run 121 = .ok (.ifCond .lt 6, 3) := by decide +kernel
theorem d_M_run_124 : decode b_M_run 124 = .ok (.iinc 3 1, 3) := by decide +kernel
theorem d_M_run_127 : decode b_M_run 127 = .ok (.iinc 4 1, 3) := by decide +kernel
theorem d_M_run_130 : decode b_M_run 130 = .ok (.goto (-25), 3) := by decide +kernel
theorem d_M_run_133 : decode b_M_run 133 = .ok (.iload_n 3, 1) := by decide +kernel
theorem d_M_run_134 : decode b_M_run 134 = .ok (.ireturn, 1) := by decide +kernel
theorem d_M_proved_0 : decode b_M_proved 0 = .ok (.aload_n 0, 1) := by decide +kernel
theorem d_M_proved_1 : decode b_M_proved 1 = .ok (.aload_n 0, 1) := by decide +kernel
theorem d_M_proved_2 : decode b_M_proved 2 = .ok (.getfield 66, 3) := by decide +kernel
theorem d_M_proved_5 : decode b_M_proved 5 = .ok (.iconst 1, 1) := by decide +kernel
theorem d_M_proved_6 : decode b_M_proved 6 = .ok (.iconst 1, 1) := by decide +kernel
theorem d_M_proved_7 : decode b_M_proved 7 = .ok (.invokevirtual 73, 3) := by decide +kernel
theorem d_M_proved_10 : decode b_M_proved 10 = .ok (.ifCond .eq 14, 3) := by decide +kernel
theorem d_M_proved_13 : decode b_M_proved 13 = .ok (.aload_n 0, 1) := by decide +kernel
theorem d_M_proved_14 : decode b_M_proved 14 = .ok (.getfield 134, 3) := by decide +kernel
theorem d_M_proved_17 : decode b_M_proved 17 = .ok (.ifCond .eq 7, 3) := by decide +kernel
theorem d_M_proved_20 : decode b_M_proved 20 = .ok (.iconst 1, 1) := by decide +kernel
theorem d_M_proved_21 : decode b_M_proved 21 = .ok (.goto 4, 3) := by decide +kernel
theorem d_M_proved_24 : decode b_M_proved 24 = .ok (.iconst 0, 1) := by decide +kernel
theorem d_M_proved_25 : decode b_M_proved 25 = .ok (.ireturn, 1) := by decide +kernel
theorem d_M_moves_0 : decode b_M_moves 0 = .ok (.aload_n 0, 1) := by decide +kernel
theorem d_M_moves_1 : decode b_M_moves 1 = .ok (.aload_n 0, 1) := by decide +kernel
theorem d_M_moves_2 : decode b_M_moves 2 = .ok (.getfield 70, 3) := by decide +kernel
theorem d_M_moves_5 : decode b_M_moves 5 = .ok (.iconst 1, 1) := by decide +kernel
theorem d_M_moves_6 : decode b_M_moves 6 = .ok (.iconst 1, 1) := by decide +kernel
theorem d_M_moves_7 : decode b_M_moves 7 = .ok (.invokevirtual 73, 3) := by decide +kernel
theorem d_M_moves_10 : decode b_M_moves 10 = .ok (.ifCond .ne 5, 3) := by decide +kernel
theorem d_M_moves_13 : decode b_M_moves 13 = .ok (.iconst 0, 1) := by decide +kernel
theorem d_M_moves_14 : decode b_M_moves 14 = .ok (.ireturn, 1) := by decide +kernel
theorem d_M_moves_15 : decode b_M_moves 15 = .ok (.aload_n 0, 1) := by decide +kernel
theorem d_M_moves_16 : decode b_M_moves 16 = .ok (.getfield 127, 3) := by decide +kernel
theorem d_M_moves_19 : decode b_M_moves 19 = .ok (.ireturn, 1) := by decide +kernel
theorem d_M_move_0 : decode b_M_move 0 = .ok (.aload_n 0, 1) := by decide +kernel
theorem d_M_move_1 : decode b_M_move 1 = .ok (.iload_n 2, 1) := by decide +kernel
theorem d_M_move_2 : decode b_M_move 2 = .ok (.iconst 0, 1) := by decide +kernel
theorem d_M_move_3 : decode b_M_move 3 = .ok (.iconst 1, 1) := by decide +kernel
theorem d_M_move_4 : decode b_M_move 4 = .ok (.invokestatic 62, 3) := by decide +kernel
theorem d_M_move_7 : decode b_M_move 7 = .ok (.aload_n 0, 1) := by decide +kernel
theorem d_M_move_8 : decode b_M_move 8 = .ok (.getfield 70, 3) := by decide +kernel
theorem d_M_move_11 : decode b_M_move 11 = .ok (.iload_n 1, 1) := by decide +kernel
theorem d_M_move_12 : decode b_M_move 12 = .ok (.iconst 0, 1) := by decide +kernel
theorem d_M_move_13 : decode b_M_move 13 = .ok (.aload_n 0, 1) := by decide +kernel
theorem d_M_move_14 : decode b_M_move 14 = .ok (.getfield 127, 3) := by decide +kernel
theorem d_M_move_17 : decode b_M_move 17 = .ok (.iconst 1, 1) := by decide +kernel
theorem d_M_move_18 : decode b_M_move 18 = .ok (.isub, 1) := by decide +kernel
theorem d_M_move_19 : decode b_M_move 19 = .ok (.invokestatic 62, 3) := by decide +kernel
theorem d_M_move_22 : decode b_M_move 22 = .ok (.invokevirtual 73, 3) := by decide +kernel
theorem d_M_move_25 : decode b_M_move 25 = .ok (.ifCond .ne 5, 3) := by decide +kernel
theorem d_M_move_28 : decode b_M_move 28 = .ok (.iconst 0, 1) := by decide +kernel
theorem d_M_move_29 : decode b_M_move 29 = .ok (.ireturn, 1) := by decide +kernel
theorem d_M_move_30 : decode b_M_move 30 = .ok (.iload_n 2, 1) := by decide +kernel
theorem d_M_move_31 : decode b_M_move 31 = .ok (.ifCond .ne 12, 3) := by decide +kernel
theorem d_M_move_34 : decode b_M_move 34 = .ok (.aload_n 0, 1) := by decide +kernel
theorem d_M_move_35 : decode b_M_move 35 = .ok (.getfield 41, 3) := by decide +kernel
theorem d_M_move_38 : decode b_M_move 38 = .ok (.iload_n 1, 1) := by decide +kernel
theorem d_M_move_39 : decode b_M_move 39 = .ok (.iaload, 1) := by decide +kernel
theorem d_M_move_40 : decode b_M_move 40 = .ok (.goto 9, 3) := by decide +kernel
theorem d_M_move_43 : decode b_M_move 43 = .ok (.aload_n 0, 1) := by decide +kernel
theorem d_M_move_44 : decode b_M_move 44 = .ok (.getfield 44, 3) := by decide +kernel
theorem d_M_move_47 : decode b_M_move 47 = .ok (.iload_n 1, 1) := by decide +kernel
theorem d_M_move_48 : decode b_M_move 48 = .ok (.iaload, 1) := by decide +kernel
theorem d_M_move_49 : decode b_M_move 49 = .ok (.ireturn, 1) := by decide +kernel
theorem d_M_replay_0 : decode b_M_replay 0 = .ok (.aload_n 0, 1) := by decide +kernel
theorem d_M_replay_1 : decode b_M_replay 1 = .ok (.aload_n 0, 1) := by decide +kernel
theorem d_M_replay_2 : decode b_M_replay 2 = .ok (.getfield 70, 3) := by decide +kernel
theorem d_M_replay_5 : decode b_M_replay 5 = .ok (.iload_n 1, 1) := by decide +kernel
theorem d_M_replay_6 : decode b_M_replay 6 = .ok (.iconst 0, 1) := by decide +kernel
theorem d_M_replay_7 : decode b_M_replay 7 = .ok (.aload_n 0, 1) := by decide +kernel
theorem d_M_replay_8 : decode b_M_replay 8 = .ok (.getfield 127, 3) := by decide +kernel
theorem d_M_replay_11 : decode b_M_replay 11 = .ok (.invokestatic 62, 3) := by decide +kernel
theorem d_M_replay_14 : decode b_M_replay 14 = .ok (.iconst 1, 1) := by decide +kernel
theorem d_M_replay_15 : decode b_M_replay 15 = .ok (.invokevirtual 73, 3) := by decide +kernel
theorem d_M_replay_18 : decode b_M_replay 18 = .ok (.ifCond .ne 5, 3) := by decide +kernel
theorem d_M_replay_21 : decode b_M_replay 21 = .ok (.iconst 0, 1) := by decide +kernel
theorem d_M_replay_22 : decode b_M_replay 22 = .ok (.ireturn, 1) := by decide +kernel
theorem d_M_replay_23 : decode b_M_replay 23 = .ok (.iconst 0, 1) := by decide +kernel
theorem d_M_replay_24 : decode b_M_replay 24 = .ok (.istore_n 2, 1) := by decide +kernel
theorem d_M_replay_25 : decode b_M_replay 25 = .ok (.iload_n 2, 1) := by decide +kernel
theorem d_M_replay_26 : decode b_M_replay 26 = .ok (.iload_n 1, 1) := by decide +kernel
theorem d_M_replay_27 : decode b_M_replay 27 = .ok (.if_icmp .ge 87, 3) := by decide +kernel
theorem d_M_replay_30 : decode b_M_replay 30 = .ok (.iconst 0, 1) := by decide +kernel
theorem d_M_replay_31 : decode b_M_replay 31 = .ok (.istore_n 3, 1) := by decide +kernel
theorem d_M_replay_32 : decode b_M_replay 32 = .ok (.aload_n 0, 1) := by decide +kernel
theorem d_M_replay_33 : decode b_M_replay 33 = .ok (.iconst 0, 1) := by decide +kernel
theorem d_M_replay_34 : decode b_M_replay 34 = .ok (.iload_n 3, 1) := by decide +kernel
theorem d_M_replay_35 : decode b_M_replay 35 = .ok (.invokevirtual 109, 3) := by decide +kernel
theorem d_M_replay_38 : decode b_M_replay 38 = .ok (.aload_n 0, 1) := by decide +kernel
theorem d_M_replay_39 : decode b_M_replay 39 = .ok (.getfield 41, 3) := by decide +kernel
theorem d_M_replay_42 : decode b_M_replay 42 = .ok (.iload_n 2, 1) := by decide +kernel
theorem d_M_replay_43 : decode b_M_replay 43 = .ok (.iaload, 1) := by decide +kernel
theorem d_M_replay_44 : decode b_M_replay 44 = .ok (.if_icmp .eq 9, 3) := by decide +kernel
theorem d_M_replay_47 : decode b_M_replay 47 = .ok (.iinc 3 1, 3) := by decide +kernel
theorem d_M_replay_50 : decode b_M_replay 50 = .ok (.goto (-18), 3) := by decide +kernel
theorem d_M_replay_53 : decode b_M_replay 53 = .ok (.aload_n 0, 1) := by decide +kernel
theorem d_M_replay_54 : decode b_M_replay 54 = .ok (.getfield 44, 3) := by decide +kernel
theorem d_M_replay_57 : decode b_M_replay 57 = .ok (.iload_n 2, 1) := by decide +kernel
theorem d_M_replay_58 : decode b_M_replay 58 = .ok (.iaload, 1) := by decide +kernel
