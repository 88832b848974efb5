theorem d_Y_add_41 : decode b_Y_add 41 = .ok (.iload 4, 2) := by decide +kernel
theorem d_Y_add_43 : decode b_Y_add 43 = .ok (.iload_n 1, 1) := by decide +kernel
theorem d_Y_add_44 : decode b_Y_add 44 = .ok (.invokevirtual 59, 3) := by decide +kernel
theorem d_Y_add_47 : decode b_Y_add 47 = .ok (.iload 4, 2) := by decide +kernel
theorem d_Y_add_49 : decode b_Y_add 49 = .ok (.ireturn, 1) := by decide +kernel
theorem d_Y_layOn_0 : decode b_Y_layOn 0 = .ok (.aload_n 0, 1) := by decide +kernel
theorem d_Y_layOn_1 : decode b_Y_layOn 1 = .ok (.getfield 9, 3) := by decide +kernel
theorem d_Y_layOn_4 : decode b_Y_layOn 4 = .ok (.iload_n 2, 1) := by decide +kernel
theorem d_Y_layOn_5 : decode b_Y_layOn 5 = .ok (.iaload, 1) := by decide +kernel
theorem d_Y_layOn_6 : decode b_Y_layOn 6 = .ok (.istore_n 3, 1) := by decide +kernel
theorem d_Y_layOn_7 : decode b_Y_layOn 7 = .ok (.iload_n 3, 1) := by decide +kernel
theorem d_Y_layOn_8 : decode b_Y_layOn 8 = .ok (.iconst 5, 1) := by decide +kernel
theorem d_Y_layOn_9 : decode b_Y_layOn 9 = .ok (.if_icmp .ge 37, 3) := by decide +kernel
theorem d_Y_layOn_12 : decode b_Y_layOn 12 = .ok (.aload_n 0, 1) := by decide +kernel
theorem d_Y_layOn_13 : decode b_Y_layOn 13 = .ok (.getfield 15, 3) := by decide +kernel
theorem d_Y_layOn_16 : decode b_Y_layOn 16 = .ok (.iload_n 2, 1) := by decide +kernel
theorem d_Y_layOn_17 : decode b_Y_layOn 17 = .ok (.iconst 5, 1) := by decide +kernel
theorem d_Y_layOn_18 : decode b_Y_layOn 18 = .ok (.imul, 1) := by decide +kernel
theorem d_Y_layOn_19 : decode b_Y_layOn 19 = .ok (.iload_n 3, 1) := by decide +kernel
theorem d_Y_layOn_20 : decode b_Y_layOn 20 = .ok (.iadd, 1) := by decide +kernel
theorem d_Y_layOn_21 : decode b_Y_layOn 21 = .ok (.iload_n 1, 1) := by decide +kernel
theorem d_Y_layOn_22 : decode b_Y_layOn 22 = .ok (.iastore, 1) := by decide +kernel
theorem d_Y_layOn_23 : decode b_Y_layOn 23 = .ok (.aload_n 0, 1) := by decide +kernel
theorem d_Y_layOn_24 : decode b_Y_layOn 24 = .ok (.getfield 9, 3) := by decide +kernel
theorem d_Y_layOn_27 : decode b_Y_layOn 27 = .ok (.iload_n 2, 1) := by decide +kernel
theorem d_Y_layOn_28 : decode b_Y_layOn 28 = .ok (.iload_n 3, 1) := by decide +kernel
theorem d_Y_layOn_29 : decode b_Y_layOn 29 = .ok (.iconst 1, 1) := by decide +kernel
theorem d_Y_layOn_30 : decode b_Y_layOn 30 = .ok (.iadd, 1) := by decide +kernel
theorem d_Y_layOn_31 : decode b_Y_layOn 31 = .ok (.iastore, 1) := by decide +kernel
theorem d_Y_layOn_32 : decode b_Y_layOn 32 = .ok (.aload_n 0, 1) := by decide +kernel
theorem d_Y_layOn_33 : decode b_Y_layOn 33 = .ok (.getfield 27, 3) := by decide +kernel
theorem d_Y_layOn_36 : decode b_Y_layOn 36 = .ok (.iload_n 1, 1) := by decide +kernel
theorem d_Y_layOn_37 : decode b_Y_layOn 37 = .ok (.iload_n 2, 1) := by decide +kernel
theorem d_Y_layOn_38 : decode b_Y_layOn 38 = .ok (.iastore, 1) := by decide +kernel
theorem d_Y_layOn_39 : decode b_Y_layOn 39 = .ok (.aload_n 0, 1) := by decide +kernel
theorem d_Y_layOn_40 : decode b_Y_layOn 40 = .ok (.getfield 30, 3) := by decide +kernel
theorem d_Y_layOn_43 : decode b_Y_layOn 43 = .ok (.iload_n 1, 1) := by decide +kernel
theorem d_Y_layOn_44 : decode b_Y_layOn 44 = .ok (.iload_n 3, 1) := by decide +kernel
theorem d_Y_layOn_45 : decode b_Y_layOn 45 = .ok (.iastore, 1) := by decide +kernel
theorem d_Y_layOn_46 : decode b_Y_layOn 46 = .ok (.return_, 1) := by decide +kernel
theorem d_Y_takeOff_0 : decode b_Y_takeOff 0 = .ok (.aload_n 0, 1) := by decide +kernel
theorem d_Y_takeOff_1 : decode b_Y_takeOff 1 = .ok (.getfield 27, 3) := by decide +kernel
theorem d_Y_takeOff_4 : decode b_Y_takeOff 4 = .ok (.iload_n 1, 1) := by decide +kernel
theorem d_Y_takeOff_5 : decode b_Y_takeOff 5 = .ok (.iaload, 1) := by decide +kernel
theorem d_Y_takeOff_6 : decode b_Y_takeOff 6 = .ok (.istore_n 2, 1) := by decide +kernel
theorem d_Y_takeOff_7 : decode b_Y_takeOff 7 = .ok (.iload_n 2, 1) := by decide +kernel
theorem d_Y_takeOff_8 : decode b_Y_takeOff 8 = .ok (.iconst (-1), 1) := by decide +kernel
theorem d_Y_takeOff_9 : decode b_Y_takeOff 9 = .ok (.if_icmp .eq 27, 3) := by decide +kernel
theorem d_Y_takeOff_12 : decode b_Y_takeOff 12 = .ok (.aload_n 0, 1) := by decide +kernel
theorem d_Y_takeOff_13 : decode b_Y_takeOff 13 = .ok (.getfield 9, 3) := by decide +kernel
theorem d_Y_takeOff_16 : decode b_Y_takeOff 16 = .ok (.iload_n 2, 1) := by decide +kernel
theorem d_Y_takeOff_17 : decode b_Y_takeOff 17 = .ok (.dup2, 1) := by decide +kernel
theorem d_Y_takeOff_18 : decode b_Y_takeOff 18 = .ok (.iaload, 1) := by decide +kernel
theorem d_Y_takeOff_19 : decode b_Y_takeOff 19 = .ok (.iconst 1, 1) := by decide +kernel
theorem d_Y_takeOff_20 : decode b_Y_takeOff 20 = .ok (.isub, 1) := by decide +kernel
theorem d_Y_takeOff_21 : decode b_Y_takeOff 21 = .ok (.iastore, 1) := by decide +kernel
theorem d_Y_takeOff_22 : decode b_Y_takeOff 22 = .ok (.aload_n 0, 1) := by decide +kernel
theorem d_Y_takeOff_23 : decode b_Y_takeOff 23 = .ok (.getfield 27, 3) := by decide +kernel
theorem d_Y_takeOff_26 : decode b_Y_takeOff 26 = .ok (.iload_n 1, 1) := by decide +kernel
theorem d_Y_takeOff_27 : decode b_Y_takeOff 27 = .ok (.iconst (-1), 1) := by decide +kernel
theorem d_Y_takeOff_28 : decode b_Y_takeOff 28 = .ok (.iastore, 1) := by decide +kernel
theorem d_Y_takeOff_29 : decode b_Y_takeOff 29 = .ok (.aload_n 0, 1) := by decide +kernel
theorem d_Y_takeOff_30 : decode b_Y_takeOff 30 = .ok (.getfield 30, 3) := by decide +kernel
theorem d_Y_takeOff_33 : decode b_Y_takeOff 33 = .ok (.iload_n 1, 1) := by decide +kernel
theorem d_Y_takeOff_34 : decode b_Y_takeOff 34 = .ok (.iconst (-1), 1) := by decide +kernel
theorem d_Y_takeOff_35 : decode b_Y_takeOff 35 = .ok (.iastore, 1) := by decide +kernel
theorem d_Y_takeOff_36 : decode b_Y_takeOff 36 = .ok (.return_, 1) := by decide +kernel
theorem d_Y_relift_0 : decode b_Y_relift 0 = .ok (.aload_n 0, 1) := by decide +kernel
theorem d_Y_relift_1 : decode b_Y_relift 1 = .ok (.iload_n 1, 1) := by decide +kernel
theorem d_Y_relift_2 : decode b_Y_relift 2 = .ok (.invokevirtual 62, 3) := by decide +kernel
theorem d_Y_relift_5 : decode b_Y_relift 5 = .ok (.aload_n 0, 1) := by decide +kernel
theorem d_Y_relift_6 : decode b_Y_relift 6 = .ok (.iload_n 1, 1) := by decide +kernel
theorem d_Y_relift_7 : decode b_Y_relift 7 = .ok (.iload_n 2, 1) := by decide +kernel
theorem d_Y_relift_8 : decode b_Y_relift 8 = .ok (.invokevirtual 59, 3) := by decide +kernel
theorem d_Y_relift_11 : decode b_Y_relift 11 = .ok (.return_, 1) := by decide +kernel
theorem d_Y_turnOf_0 : decode b_Y_turnOf 0 = .ok (.aload_n 0, 1) := by decide +kernel
theorem d_Y_turnOf_1 : decode b_Y_turnOf 1 = .ok (.getfield 24, 3) := by decide +kernel
theorem d_Y_turnOf_4 : decode b_Y_turnOf 4 = .ok (.iload_n 1, 1) := by decide +kernel
theorem d_Y_turnOf_5 : decode b_Y_turnOf 5 = .ok (.iaload, 1) := by decide +kernel
theorem d_Y_turnOf_6 : decode b_Y_turnOf 6 = .ok (.iconst (-1), 1) := by decide +kernel
theorem d_Y_turnOf_7 : decode b_Y_turnOf 7 = .ok (.if_icmp .ne 9, 3) := by decide +kernel
theorem d_Y_turnOf_10 : decode b_Y_turnOf 10 = .ok (.sipush 1000, 3) := by decide +kernel
theorem d_Y_turnOf_13 : decode b_Y_turnOf 13 = .ok (.goto 14, 3) := by decide +kernel
theorem d_Y_turnOf_16 : decode b_Y_turnOf 16 = .ok (.aload_n 0, 1) := by decide +kernel
theorem d_Y_turnOf_17 : decode b_Y_turnOf 17 = .ok (.getfield 24, 3) := by decide +kernel
theorem d_Y_turnOf_20 : decode b_Y_turnOf 20 = .ok (.iload_n 1, 1) := by decide +kernel
theorem d_Y_turnOf_21 : decode b_Y_turnOf 21 = .ok (.iaload, 1) := by decide +kernel
theorem d_Y_turnOf_22 : decode b_Y_turnOf 22 = .ok (.bipush 10, 2) := by decide +kernel
theorem d_Y_turnOf_24 : decode b_Y_turnOf 24 = .ok (.imul, 1) := by decide +kernel
theorem d_Y_turnOf_25 : decode b_Y_turnOf 25 = .ok (.iload_n 1, 1) := by decide +kernel
theorem d_Y_turnOf_26 : decode b_Y_turnOf 26 = .ok (.iadd, 1) := by decide +kernel
theorem d_Y_turnOf_27 : decode b_Y_turnOf 27 = .ok (.ireturn, 1) := by decide +kernel
theorem d_Y_wouldBlock_0 : decode b_Y_wouldBlock 0 = .ok (.aload_n 0, 1) := by decide +kernel
theorem d_Y_wouldBlock_1 : decode b_Y_wouldBlock 1 = .ok (.iload_n 1, 1) := by decide +kernel
theorem d_Y_wouldBlock_2 : decode b_Y_wouldBlock 2 = .ok (.invokevirtual 66, 3) := by decide +kernel
theorem d_Y_wouldBlock_5 : decode b_Y_wouldBlock 5 = .ok (.istore 4, 2) := by decide +kernel
theorem d_Y_wouldBlock_7 : decode b_Y_wouldBlock 7 = .ok (.iconst 0, 1) := by decide +kernel
theorem d_Y_wouldBlock_8 : decode b_Y_wouldBlock 8 = .ok (.istore 5, 2) := by decide +kernel
theorem d_Y_wouldBlock_10 : decode b_Y_wouldBlock 10 = .ok (.iload 5, 2) := by decide +kernel
theorem d_Y_wouldBlock_12 : decode b_Y_wouldBlock 12 = .ok (.iload_n 3, 1) := by decide +kernel
theorem d_Y_wouldBlock_13 : decode b_Y_wouldBlock 13 = .ok (.if_icmp .ge 27, 3) := by decide +kernel
theorem d_Y_wouldBlock_16 : decode b_Y_wouldBlock 16 = .ok (.aload_n 0, 1) := by decide +kernel
theorem d_Y_wouldBlock_17 : decode b_Y_wouldBlock 17 = .ok (.aload_n 0, 1) := by decide +kernel
theorem d_Y_wouldBlock_18 : decode b_Y_wouldBlock 18 = .ok (.iload_n 2, 1) := by decide +kernel
theorem d_Y_wouldBlock_19 : decode b_Y_wouldBlock 19 = .ok (.iload 5, 2) := by decide +kernel
theorem d_Y_wouldBlock_21 : decode b_Y_wouldBlock 21 = .ok (.invokevirtual 51, 3) := by decide +kernel
theorem d_Y_wouldBlock_24 : decode b_Y_wouldBlock 24 = .ok (.invokevirtual 66, 3) := by decide +kernel
theorem d_Y_wouldBlock_27 : decode b_Y_wouldBlock 27 = .ok (.iload 4, 2) := by decide +kernel
theorem d_Y_wouldBlock_29 : decode b_Y_wouldBlock 29 = .ok (.if_icmp .ge 5, 3) := by decide +kernel
theorem d_Y_wouldBlock_32 : decode b_Y_wouldBlock 32 = .ok (.iconst 1, 1) := by decide +kernel
theorem d_Y_wouldBlock_33 : decode b_Y_wouldBlock 33 = .ok (.ireturn, 1) := by decide +kernel
theorem d_Y_wouldBlock_34 : decode b_Y_wouldBlock 34 = .ok (.iinc 5 1, 3) := by decide +kernel
theorem d_Y_wouldBlock_37 : decode b_Y_wouldBlock 37 = .ok (.goto (-27), 3) := by decide +kernel
theorem d_Y_wouldBlock_40 : decode b_Y_wouldBlock 40 = .ok (.iconst 0, 1) := by decide +kernel
theorem d_Y_wouldBlock_41 : decode b_Y_wouldBlock 41 = .ok (.ireturn, 1) := by decide +kernel
theorem d_Y_wouldBlockOn_0 : decode b_Y_wouldBlockOn 0 = .ok (.aload_n 0, 1) := by decide +kernel
theorem d_Y_wouldBlockOn_1 : decode b_Y_wouldBlockOn 1 = .ok (.iload_n 1, 1) := by decide +kernel
theorem d_Y_wouldBlockOn_2 : decode b_Y_wouldBlockOn 2 = .ok (.iload_n 2, 1) := by decide +kernel
theorem d_Y_wouldBlockOn_3 : decode b_Y_wouldBlockOn 3 = .ok (.aload_n 0, 1) := by decide +kernel
theorem d_Y_wouldBlockOn_4 : decode b_Y_wouldBlockOn 4 = .ok (.getfield 9, 3) := by decide +kernel
theorem d_Y_wouldBlockOn_7 : decode b_Y_wouldBlockOn 7 = .ok (.iload_n 2, 1) := by decide +kernel
theorem d_Y_wouldBlockOn_8 : decode b_Y_wouldBlockOn 8 = .ok (.iaload, 1) := by decide +kernel
theorem d_Y_wouldBlockOn_9 : decode b_Y_wouldBlockOn 9 = .ok (.invokevirtual 69, 3) := by decide +kernel
theorem d_Y_wouldBlockOn_12 : decode b_Y_wouldBlockOn 12 = .ok (.ireturn, 1) := by decide +kernel
theorem d_Y_isBlocking_0 : decode b_Y_isBlocking 0 = .ok (.aload_n 0, 1) := by decide +kernel
theorem d_Y_isBlocking_1 : decode b_Y_isBlocking 1 = .ok (.iload_n 1, 1) := by decide +kernel
theorem d_Y_isBlocking_2 : decode b_Y_isBlocking 2 = .ok (.invokevirtual 72, 3) := by decide +kernel
theorem d_Y_isBlocking_5 : decode b_Y_isBlocking 5 = .ok (.ifCond .ne 27, 3) := by decide +kernel
theorem d_Y_isBlocking_8 : decode b_Y_isBlocking 8 = .ok (.aload_n 0, 1) := by decide +kernel
theorem d_Y_isBlocking_9 : decode b_Y_isBlocking 9 = .ok (.iload_n 1, 1) := by decide +kernel
theorem d_Y_isBlocking_10 : decode b_Y_isBlocking 10 = .ok (.aload_n 0, 1) := by decide +kernel
theorem d_Y_isBlocking_11 : decode b_Y_isBlocking 11 = .ok (.getfield 27, 3) := by decide +kernel
theorem d_Y_isBlocking_14 : decode b_Y_isBlocking 14 = .ok (.iload_n 1, 1) := by decide +kernel
theorem d_Y_isBlocking_15 : decode b_Y_isBlocking 15 = .ok (.iaload, 1) := by decide +kernel
theorem d_Y_isBlocking_16 : decode b_Y_isBlocking 16 = .ok (.aload_n 0, 1) := by decide +kernel
theorem d_Y_isBlocking_17 : decode b_Y_isBlocking 17 = .ok (.getfield 30, 3) := by decide +kernel
theorem d_Y_isBlocking_20 : decode b_Y_isBlocking 20 = .ok (.iload_n 1, 1) := by decide +kernel
theorem d_Y_isBlocking_21 : decode b_Y_isBlocking 21 = .ok (.iaload, 1) := by decide +kernel
theorem d_Y_isBlocking_22 : decode b_Y_isBlocking 22 = .ok (.invokevirtual 69, 3) := by decide +kernel
theorem d_Y_isBlocking_25 : decode b_Y_isBlocking 25 = .ok (.ifCond .eq 7, 3) := by decide +kernel
theorem d_Y_isBlocking_28 : decode b_Y_isBlocking 28 = .ok (.iconst 1, 1) := by decide +kernel
theorem d_Y_isBlocking_29 : decode b_Y_isBlocking 29 = .ok (.goto 4, 3) := by decide +kernel
theorem d_Y_isBlocking_32 : decode b_Y_isBlocking 32 = .ok (.iconst 0, 1) := by decide +kernel
theorem d_Y_isBlocking_33 : decode b_Y_isBlocking 33 = .ok (.ireturn, 1) := by decide +kernel
theorem d_Y_countBlocking_0 : decode b_Y_countBlocking 0 = .ok (.iconst 0, 1) := by decide +kernel
theorem d_Y_countBlocking_1 : decode b_Y_countBlocking 1 = .ok (.istore_n 1, 1) := by decide +kernel
theorem d_Y_countBlocking_2 : decode b_Y_countBlocking 2 = .ok (.iconst 0, 1) := by decide +kernel
theorem d_Y_countBlocking_3 : decode b_Y_countBlocking 3 = .ok (.istore_n 2, 1) := by decide +kernel
theorem d_Y_countBlocking_4 : decode b_Y_countBlocking 4 = .ok (.iload_n 2, 1) := by decide +kernel
theorem d_Y_countBlocking_5 : decode b_Y_countBlocking 5 = .ok (.aload_n 0, 1) := by decide +kernel
theorem d_Y_countBlocking_6 : decode b_Y_countBlocking 6 = .ok (.getfield 44, 3) := by decide +kernel
theorem d_Y_countBlocking_9 : decode b_Y_countBlocking 9 = .ok (.if_icmp .ge 20, 3) := by decide +kernel
theorem d_Y_countBlocking_12 : decode b_Y_countBlocking 12 = .ok (.aload_n 0, 1) := by decide +kernel
theorem d_Y_countBlocking_13 : decode b_Y_countBlocking 13 = .ok (.iload_n 2, 1) := by decide +kernel
theorem d_Y_countBlocking_14 : decode b_Y_countBlocking 14 = .ok (.invokevirtual 76, 3) := by decide +kernel
theorem d_Y_countBlocking_17 : decode b_Y_countBlocking 17 = .ok (.ifCond .eq 6, 3) := by decide +kernel
theorem d_Y_countBlocking_20 : decode b_Y_countBlocking 20 = .ok (.iinc 1 1, 3) := by decide +kernel
theorem d_Y_countBlocking_23 : decode b_Y_countBlocking 23 = .ok (.iinc 2 1, 3) := by decide +kernel
theorem d_Y_countBlocking_26 : decode b_Y_countBlocking 26 = .ok (.goto (-22), 3) := by decide +kernel
theorem d_Y_countBlocking_29 : decode b_Y_countBlocking 29 = .ok (.iload_n 1, 1) := by decide +kernel
theorem d_Y_countBlocking_30 : decode b_Y_countBlocking 30 = .ok (.ireturn, 1) := by decide +kernel
theorem d_Y_countGone_0 : decode b_Y_countGone 0 = .ok (.iconst 0, 1) := by decide +kernel
theorem d_Y_countGone_1 : decode b_Y_countGone 1 = .ok (.istore_n 1, 1) := by decide +kernel
theorem d_Y_countGone_2 : decode b_Y_countGone 2 = .ok (.iconst 0, 1) := by decide +kernel
theorem d_Y_countGone_3 : decode b_Y_countGone 3 = .ok (.istore_n 2, 1) := by decide +kernel
theorem d_Y_countGone_4 : decode b_Y_countGone 4 = .ok (.iload_n 2, 1) := by decide +kernel
theorem d_Y_countGone_5 : decode b_Y_countGone 5 = .ok (.aload_n 0, 1) := by decide +kernel
theorem d_Y_countGone_6 : decode b_Y_countGone 6 = .ok (.getfield 44, 3) := by decide +kernel
theorem d_Y_countGone_9 : decode b_Y_countGone 9 = .ok (.if_icmp .ge 20, 3) := by decide +kernel
theorem d_Y_countGone_12 : decode b_Y_countGone 12 = .ok (.aload_n 0, 1) := by decide +kernel
theorem d_Y_countGone_13 : decode b_Y_countGone 13 = .ok (.iload_n 2, 1) := by decide +kernel
theorem d_Y_countGone_14 : decode b_Y_countGone 14 = .ok (.invokevirtual 72, 3) := by decide +kernel
theorem d_Y_countGone_17 : decode b_Y_countGone 17 = .ok (.ifCond .eq 6, 3) := by decide +kernel
theorem d_Y_countGone_20 : decode b_Y_countGone 20 = .ok (.iinc 1 1, 3) := by decide +kernel
theorem d_Y_countGone_23 : decode b_Y_countGone 23 = .ok (.iinc 2 1, 3) := by decide +kernel
theorem d_Y_countGone_26 : decode b_Y_countGone 26 = .ok (.goto (-22), 3) := by decide +kernel
theorem d_Y_countGone_29 : decode b_Y_countGone 29 = .ok (.iload_n 1, 1) := by decide +kernel
theorem d_Y_countGone_30 : decode b_Y_countGone 30 = .ok (.ireturn, 1) := by decide +kernel
theorem d_Y_nextWanted_0 : decode b_Y_nextWanted 0 = .ok (.iconst (-1), 1) := by decide +kernel
theorem d_Y_nextWanted_1 : decode b_Y_nextWanted 1 = .ok (.istore_n 1, 1) := by decide +kernel
theorem d_Y_nextWanted_2 : decode b_Y_nextWanted 2 = .ok (.sipush 1000, 3) := by decide +kernel
theorem d_Y_nextWanted_5 : decode b_Y_nextWanted 5 = .ok (.istore_n 2, 1) := by decide +kernel
theorem d_Y_nextWanted_6 : decode b_Y_nextWanted 6 = .ok (.iconst 0, 1) := by decide +kernel
theorem d_Y_nextWanted_7 : decode b_Y_nextWanted 7 = .ok (.istore_n 3, 1) := by decide +kernel
theorem d_Y_nextWanted_8 : decode b_Y_nextWanted 8 = .ok (.iload_n 3, 1) := by decide +kernel
theorem d_Y_nextWanted_9 : decode b_Y_nextWanted 9 = .ok (.aload_n 0, 1) := by decide +kernel
theorem d_Y_nextWanted_10 : decode b_Y_nextWanted 10 = .ok (.getfield 44, 3) := by decide +kernel
theorem d_Y_nextWanted_13 : decode b_Y_nextWanted 13 = .ok (.if_icmp .ge 34, 3) := by decide +kernel
theorem d_Y_nextWanted_16 : decode b_Y_nextWanted 16 = .ok (.aload_n 0, 1) := by decide +kernel
theorem d_Y_nextWanted_17 : decode b_Y_nextWanted 17 = .ok (.iload_n 3, 1) := by decide +kernel
theorem d_Y_nextWanted_18 : decode b_Y_nextWanted 18 = .ok (.invokevirtual 72, 3) := by decide +kernel
theorem d_Y_nextWanted_21 : decode b_Y_nextWanted 21 = .ok (.ifCond .ne 20, 3) := by decide +kernel
theorem d_Y_nextWanted_24 : decode b_Y_nextWanted 24 = .ok (.aload_n 0, 1) := by decide +kernel
theorem d_Y_nextWanted_25 : decode b_Y_nextWanted 25 = .ok (.iload_n 3, 1) := by decide +kernel
theorem d_Y_nextWanted_26 : decode b_Y_nextWanted 26 = .ok (.invokevirtual 66, 3) := by decide +kernel
theorem d_Y_nextWanted_29 : decode b_Y_nextWanted 29 = .ok (.iload_n 2, 1) := by decide +kernel
theorem d_Y_nextWanted_30 : decode b_Y_nextWanted 30 = .ok (.if_icmp .ge 11, 3) := by decide +kernel
theorem d_Y_nextWanted_33 : decode b_Y_nextWanted 33 = .ok (.iload_n 3, 1) := by decide +kernel
theorem d_Y_nextWanted_34 : decode b_Y_nextWanted 34 = .ok (.istore_n 1, 1) := by decide +kernel
theorem d_Y_nextWanted_35 : decode b_Y_nextWanted 35 = .ok (.aload_n 0, 1) := by decide +kernel
theorem d_Y_nextWanted_36 : decode b_Y_nextWanted 36 = .ok (.iload_n 3, 1) := by decide +kernel
theorem d_Y_nextWanted_37 : decode b_Y_nextWanted 37 = .ok (.invokevirtual 66, 3) := by decide +kernel
theorem d_Y_nextWanted_40 : decode b_Y_nextWanted 40 = .ok (.istore_n 2, 1) := by decide +kernel
theorem d_Y_nextWanted_41 : decode b_Y_nextWanted 41 = .ok (.iinc 3 1, 3) := by decide +kernel
theorem d_Y_nextWanted_44 : decode b_Y_nextWanted 44 = .ok (.goto (-36), 3) := by decide +kernel
theorem d_Y_nextWanted_47 : decode b_Y_nextWanted 47 = .ok (.iload_n 1, 1) := by decide +kernel
theorem d_Y_nextWanted_48 : decode b_Y_nextWanted 48 = .ok (.ireturn, 1) := by decide +kernel
theorem d_Y_isTop_0 : decode b_Y_isTop 0 = .ok (.aload_n 0, 1) := by decide +kernel
theorem d_Y_isTop_1 : decode b_Y_isTop 1 = .ok (.iload_n 1, 1) := by decide +kernel
theorem d_Y_isTop_2 : decode b_Y_isTop 2 = .ok (.invokevirtual 72, 3) := by decide +kernel
theorem d_Y_isTop_5 : decode b_Y_isTop 5 = .ok (.ifCond .ne 21, 3) := by decide +kernel
theorem d_Y_isTop_8 : decode b_Y_isTop 8 = .ok (.aload_n 0, 1) := by decide +kernel
theorem d_Y_isTop_9 : decode b_Y_isTop 9 = .ok (.aload_n 0, 1) := by decide +kernel
theorem d_Y_isTop_10 : decode b_Y_isTop 10 = .ok (.getfield 27, 3) := by decide +kernel
theorem d_Y_isTop_13 : decode b_Y_isTop 13 = .ok (.iload_n 1, 1) := by decide +kernel
theorem d_Y_isTop_14 : decode b_Y_isTop 14 = .ok (.iaload, 1) := by decide +kernel
theorem d_Y_isTop_15 : decode b_Y_isTop 15 = .ok (.invokevirtual 55, 3) := by decide +kernel
theorem d_Y_isTop_18 : decode b_Y_isTop 18 = .ok (.iload_n 1, 1) := by decide +kernel
theorem d_Y_isTop_19 : decode b_Y_isTop 19 = .ok (.if_icmp .ne 7, 3) := by decide +kernel
theorem d_Y_isTop_22 : decode b_Y_isTop 22 = .ok (.iconst 1, 1) := by decide +kernel
theorem d_Y_isTop_23 : decode b_Y_isTop 23 = .ok (.goto 4, 3) := by decide +kernel
theorem d_Y_isTop_26 : decode b_Y_isTop 26 = .ok (.iconst 0, 1) := by decide +kernel
theorem d_Y_isTop_27 : decode b_Y_isTop 27 = .ok (.ireturn, 1) := by decide +kernel
theorem d_Y_tidyOnce_0 : decode b_Y_tidyOnce 0 = .ok (.iconst 0, 1) := by decide +kernel
theorem d_Y_tidyOnce_1 : decode b_Y_tidyOnce 1 = .ok (.istore_n 1, 1) := by decide +kernel
theorem d_Y_tidyOnce_2 : decode b_Y_tidyOnce 2 = .ok (.iload_n 1, 1) := by decide +kernel
theorem d_Y_tidyOnce_3 : decode b_Y_tidyOnce 3 = .ok (.aload_n 0, 1) := by decide +kernel
theorem d_Y_tidyOnce_4 : decode b_Y_tidyOnce 4 = .ok (.getfield 37, 3) := by decide +kernel
theorem d_Y_tidyOnce_7 : decode b_Y_tidyOnce 7 = .ok (.if_icmp .ge 47, 3) := by decide +kernel
theorem d_Y_tidyOnce_10 : decode b_Y_tidyOnce 10 = .ok (.aload_n 0, 1) := by decide +kernel
theorem d_Y_tidyOnce_11 : decode b_Y_tidyOnce 11 = .ok (.iload_n 1, 1) := by decide +kernel
theorem d_Y_tidyOnce_12 : decode b_Y_tidyOnce 12 = .ok (.invokevirtual 55, 3) := by decide +kernel
theorem d_Y_tidyOnce_15 : decode b_Y_tidyOnce 15 = .ok (.istore_n 2, 1) := by decide +kernel
theorem d_Y_tidyOnce_16 : decode b_Y_tidyOnce 16 = .ok (.iload_n 2, 1) := by decide +kernel
theorem d_Y_tidyOnce_17 : decode b_Y_tidyOnce 17 = .ok (.iconst (-1), 1) := by decide +kernel
theorem d_Y_tidyOnce_18 : decode b_Y_tidyOnce 18 = .ok (.if_icmp .eq 30, 3) := by decide +kernel
theorem d_Y_tidyOnce_21 : decode b_Y_tidyOnce 21 = .ok (.aload_n 0, 1) := by decide +kernel
theorem d_Y_tidyOnce_22 : decode b_Y_tidyOnce 22 = .ok (.iload_n 2, 1) := by decide +kernel
theorem d_Y_tidyOnce_23 : decode b_Y_tidyOnce 23 = .ok (.invokevirtual 76, 3) := by decide +kernel
theorem d_Y_tidyOnce_26 : decode b_Y_tidyOnce 26 = .ok (.ifCond .eq 22, 3) := by decide +kernel
theorem d_Y_tidyOnce_29 : decode b_Y_tidyOnce 29 = .ok (.aload_n 0, 1) := by decide +kernel
theorem d_Y_tidyOnce_30 : decode b_Y_tidyOnce 30 = .ok (.iload_n 2, 1) := by decide +kernel
theorem d_Y_tidyOnce_31 : decode b_Y_tidyOnce 31 = .ok (.invokevirtual 79, 3) := by decide +kernel
theorem d_Y_tidyOnce_34 : decode b_Y_tidyOnce 34 = .ok (.istore_n 3, 1) := by decide +kernel
theorem d_Y_tidyOnce_35 : decode b_Y_tidyOnce 35 = .ok (.iload_n 3, 1) := by decide +kernel
theorem d_Y_tidyOnce_36 : decode b_Y_tidyOnce 36 = .ok (.iconst (-1), 1) := by decide +kernel
theorem d_Y_tidyOnce_37 : decode b_Y_tidyOnce 37 = .ok (.if_icmp .eq 11, 3) := by decide +kernel
theorem d_Y_tidyOnce_40 : decode b_Y_tidyOnce 40 = .ok (.aload_n 0, 1) := by decide +kernel
theorem d_Y_tidyOnce_41 : decode b_Y_tidyOnce 41 = .ok (.iload_n 2, 1) := by decide +kernel
theorem d_Y_tidyOnce_42 : decode b_Y_tidyOnce 42 = .ok (.iload_n 3, 1) := by decide +kernel
theorem d_Y_tidyOnce_43 : decode b_Y_tidyOnce 43 = .ok (.invokevirtual 82, 3) := by decide +kernel
theorem d_Y_tidyOnce_46 : decode b_Y_tidyOnce 46 = .ok (.iconst 1, 1) := by decide +kernel
theorem d_Y_tidyOnce_47 : decode b_Y_tidyOnce 47 = .ok (.ireturn, 1) := by decide +kernel
theorem d_Y_tidyOnce_48 : decode b_Y_tidyOnce 48 = .ok (.iinc 1 1, 3) := by decide +kernel
theorem d_Y_tidyOnce_51 : decode b_Y_tidyOnce 51 = .ok (.goto (-49), 3) := by decide +kernel
theorem d_Y_tidyOnce_54 : decode b_Y_tidyOnce 54 = .ok (.iconst 0, 1) := by decide +kernel
theorem d_Y_tidyOnce_55 : decode b_Y_tidyOnce 55 = .ok (.ireturn, 1) := by decide +kernel
theorem d_Y_tidyPlaceFor_0 : decode b_Y_tidyPlaceFor 0 = .ok (.iconst 0, 1) := by decide +kernel
theorem d_Y_tidyPlaceFor_1 : decode b_Y_tidyPlaceFor 1 = .ok (.istore_n 2, 1) := by decide +kernel
theorem d_Y_tidyPlaceFor_2 : decode b_Y_tidyPlaceFor 2 = .ok (.iload_n 2, 1) := by decide +kernel
theorem d_Y_tidyPlaceFor_3 : decode b_Y_tidyPlaceFor 3 = .ok (.aload_n 0, 1) := by decide +kernel
theorem d_Y_tidyPlaceFor_4 : decode b_Y_tidyPlaceFor 4 = .ok (.getfield 37, 3) := by decide +kernel
theorem d_Y_tidyPlaceFor_7 : decode b_Y_tidyPlaceFor 7 = .ok (.if_icmp .ge 44, 3) := by decide +kernel
theorem d_Y_tidyPlaceFor_10 : decode b_Y_tidyPlaceFor 10 = .ok (.iload_n 2, 1) := by decide +kernel
theorem d_Y_tidyPlaceFor_11 : decode b_Y_tidyPlaceFor 11 = .ok (.aload_n 0, 1) := by decide +kernel
theorem d_Y_tidyPlaceFor_12 : decode b_Y_tidyPlaceFor 12 = .ok (.getfield 27, 3) := by decide +kernel
theorem d_Y_tidyPlaceFor_15 : decode b_Y_tidyPlaceFor 15 = .ok (.iload_n 1, 1) := by decide +kernel
theorem d_Y_tidyPlaceFor_16 : decode b_Y_tidyPlaceFor 16 = .ok (.iaload, 1) := by decide +kernel
theorem d_Y_tidyPlaceFor_17 : decode b_Y_tidyPlaceFor 17 = .ok (.if_icmp .eq 28, 3) := by decide +kernel
theorem d_Y_tidyPlaceFor_20 : decode b_Y_tidyPlaceFor 20 = .ok (.aload_n 0, 1) := by decide +kernel
theorem d_Y_tidyPlaceFor_21 : decode b_Y_tidyPlaceFor 21 = .ok (.iload_n 2, 1) := by decide +kernel
theorem d_Y_tidyPlaceFor_22 : decode b_Y_tidyPlaceFor 22 = .ok (.aload_n 0, 1) := by decide +kernel
theorem d_Y_tidyPlaceFor_23 : decode b_Y_tidyPlaceFor 23 = .ok (.getfield 21, 3) := by decide +kernel
theorem d_Y_tidyPlaceFor_26 : decode b_Y_tidyPlaceFor 26 = .ok (.iload_n 1, 1) := by decide +kernel
theorem d_Y_tidyPlaceFor_27 : decode b_Y_tidyPlaceFor 27 = .ok (.iaload, 1) := by decide +kernel
theorem d_Y_tidyPlaceFor_28 : decode b_Y_tidyPlaceFor 28 = .ok (.invokevirtual 85, 3) := by decide +kernel
theorem d_Y_tidyPlaceFor_31 : decode b_Y_tidyPlaceFor 31 = .ok (.ifCond .eq 14, 3) := by decide +kernel
theorem d_Y_tidyPlaceFor_34 : decode b_Y_tidyPlaceFor 34 = .ok (.aload_n 0, 1) := by decide +kernel
theorem d_Y_tidyPlaceFor_35 : decode b_Y_tidyPlaceFor 35 = .ok (.iload_n 1, 1) := by decide +kernel
theorem d_Y_tidyPlaceFor_36 : decode b_Y_tidyPlaceFor 36 = .ok (.iload_n 2, 1) := by decide +kernel
theorem d_Y_tidyPlaceFor_37 : decode b_Y_tidyPlaceFor 37 = .ok (.invokevirtual 89, 3) := by decide +kernel
theorem d_Y_tidyPlaceFor_40 : decode b_Y_tidyPlaceFor 40 = .ok (.ifCond .ne 5, 3) := by decide +kernel
theorem d_Y_tidyPlaceFor_43 : decode b_Y_tidyPlaceFor 43 = .ok (.iload_n 2, 1) := by decide +kernel
theorem d_Y_tidyPlaceFor_44 : decode b_Y_tidyPlaceFor 44 = .ok (.ireturn, 1) := by decide +kernel
theorem d_Y_tidyPlaceFor_45 : decode b_Y_tidyPlaceFor 45 = .ok (.iinc 2 1, 3) := by decide +kernel
theorem d_Y_tidyPlaceFor_48 : decode b_Y_tidyPlaceFor 48 = .ok (.goto (-46), 3) := by decide +kernel
theorem d_Y_tidyPlaceFor_51 : decode b_Y_tidyPlaceFor 51 = .ok (.iconst (-1), 1) := by decide +kernel
theorem d_Y_tidyPlaceFor_52 : decode b_Y_tidyPlaceFor 52 = .ok (.ireturn, 1) := by decide +kernel
