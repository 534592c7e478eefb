theorem dX2_init_0 : decode cX2_init 0 = .ok (.aload_n 0, 1) := by decide +kernel
theorem dX2_init_1 : decode cX2_init 1 = .ok (.invokespecial 3, 3) := by decide +kernel
theorem dX2_init_4 : decode cX2_init 4 = .ok (.aload_n 0, 1) := by decide +kernel
theorem dX2_init_5 : decode cX2_init 5 = .ok (.bipush 12, 2) := by decide +kernel
theorem dX2_init_7 : decode cX2_init 7 = .ok (.newarray .int, 2) := by decide +kernel
theorem dX2_init_9 : decode cX2_init 9 = .ok (.putfield 9, 3) := by decide +kernel
theorem dX2_init_12 : decode cX2_init 12 = .ok (.aload_n 0, 1) := by decide +kernel
theorem dX2_init_13 : decode cX2_init 13 = .ok (.bipush 12, 2) := by decide +kernel
theorem dX2_init_15 : decode cX2_init 15 = .ok (.newarray .int, 2) := by decide +kernel
theorem dX2_init_17 : decode cX2_init 17 = .ok (.putfield 15, 3) := by decide +kernel
theorem dX2_init_20 : decode cX2_init 20 = .ok (.iconst 0, 1) := by decide +kernel
theorem dX2_init_21 : decode cX2_init 21 = .ok (.istore_n 1, 1) := by decide +kernel
theorem dX2_init_22 : decode cX2_init 22 = .ok (.iload_n 1, 1) := by decide +kernel
theorem dX2_init_23 : decode cX2_init 23 = .ok (.bipush 12, 2) := by decide +kernel
theorem dX2_init_25 : decode cX2_init 25 = .ok (.if_icmp .ge 20, 3) := by decide +kernel
theorem dX2_init_28 : decode cX2_init 28 = .ok (.aload_n 0, 1) := by decide +kernel
theorem dX2_init_29 : decode cX2_init 29 = .ok (.getfield 9, 3) := by decide +kernel
theorem dX2_init_32 : decode cX2_init 32 = .ok (.iload_n 1, 1) := by decide +kernel
theorem dX2_init_33 : decode cX2_init 33 = .ok (.iload_n 1, 1) := by decide +kernel
theorem dX2_init_34 : decode cX2_init 34 = .ok (.iconst 2, 1) := by decide +kernel
theorem dX2_init_35 : decode cX2_init 35 = .ok (.idiv, 1) := by decide +kernel
theorem dX2_init_36 : decode cX2_init 36 = .ok (.iconst 1, 1) := by decide +kernel
theorem dX2_init_37 : decode cX2_init 37 = .ok (.iadd, 1) := by decide +kernel
theorem dX2_init_38 : decode cX2_init 38 = .ok (.iastore, 1) := by decide +kernel
theorem dX2_init_39 : decode cX2_init 39 = .ok (.iinc 1 1, 3) := by decide +kernel
theorem dX2_init_42 : decode cX2_init 42 = .ok (.goto (-20), 3) := by decide +kernel
theorem dX2_init_45 : decode cX2_init 45 = .ok (.aload_n 0, 1) := by decide +kernel
theorem dX2_init_46 : decode cX2_init 46 = .ok (.sipush 200, 3) := by decide +kernel
theorem dX2_init_49 : decode cX2_init 49 = .ok (.putfield 18, 3) := by decide +kernel
theorem dX2_init_52 : decode cX2_init 52 = .ok (.aload_n 0, 1) := by decide +kernel
theorem dX2_init_53 : decode cX2_init 53 = .ok (.bipush 50, 2) := by decide +kernel
theorem dX2_init_55 : decode cX2_init 55 = .ok (.putfield 22, 3) := by decide +kernel
theorem dX2_init_58 : decode cX2_init 58 = .ok (.return_, 1) := by decide +kernel
theorem dX2_hasStation_0 : decode cX2_hasStation 0 = .ok (.iload_n 0, 1) := by decide +kernel
theorem dX2_hasStation_1 : decode cX2_hasStation 1 = .ok (.ifCond .lt 13, 3) := by decide +kernel
theorem dX2_hasStation_4 : decode cX2_hasStation 4 = .ok (.iload_n 0, 1) := by decide +kernel
theorem dX2_hasStation_5 : decode cX2_hasStation 5 = .ok (.bipush 12, 2) := by decide +kernel
theorem dX2_hasStation_7 : decode cX2_hasStation 7 = .ok (.if_icmp .ge 7, 3) := by decide +kernel
theorem dX2_hasStation_10 : decode cX2_hasStation 10 = .ok (.iconst 1, 1) := by decide +kernel
theorem dX2_hasStation_11 : decode cX2_hasStation 11 = .ok (.goto 4, 3) := by decide +kernel
theorem dX2_hasStation_14 : decode cX2_hasStation 14 = .ok (.iconst 0, 1) := by decide +kernel
theorem dX2_hasStation_15 : decode cX2_hasStation 15 = .ok (.ireturn, 1) := by decide +kernel
theorem dX2_copyFrom_0 : decode cX2_copyFrom 0 = .ok (.aload_n 1, 1) := by decide +kernel
theorem dX2_copyFrom_1 : decode cX2_copyFrom 1 = .ok (.getfield 9, 3) := by decide +kernel
theorem dX2_copyFrom_4 : decode cX2_copyFrom 4 = .ok (.iconst 0, 1) := by decide +kernel
theorem dX2_copyFrom_5 : decode cX2_copyFrom 5 = .ok (.aload_n 0, 1) := by decide +kernel
theorem dX2_copyFrom_6 : decode cX2_copyFrom 6 = .ok (.getfield 9, 3) := by decide +kernel
theorem dX2_copyFrom_9 : decode cX2_copyFrom 9 = .ok (.iconst 0, 1) := by decide +kernel
theorem dX2_copyFrom_10 : decode cX2_copyFrom 10 = .ok (.bipush 12, 2) := by decide +kernel
theorem dX2_copyFrom_12 : decode cX2_copyFrom 12 = .ok (.invokestatic 25, 3) := by decide +kernel
theorem dX2_copyFrom_15 : decode cX2_copyFrom 15 = .ok (.aload_n 1, 1) := by decide +kernel
theorem dX2_copyFrom_16 : decode cX2_copyFrom 16 = .ok (.getfield 15, 3) := by decide +kernel
theorem dX2_copyFrom_19 : decode cX2_copyFrom 19 = .ok (.iconst 0, 1) := by decide +kernel
theorem dX2_copyFrom_20 : decode cX2_copyFrom 20 = .ok (.aload_n 0, 1) := by decide +kernel
theorem dX2_copyFrom_21 : decode cX2_copyFrom 21 = .ok (.getfield 15, 3) := by decide +kernel
theorem dX2_copyFrom_24 : decode cX2_copyFrom 24 = .ok (.iconst 0, 1) := by decide +kernel
theorem dX2_copyFrom_25 : decode cX2_copyFrom 25 = .ok (.bipush 12, 2) := by decide +kernel
theorem dX2_copyFrom_27 : decode cX2_copyFrom 27 = .ok (.invokestatic 25, 3) := by decide +kernel
theorem dX2_copyFrom_30 : decode cX2_copyFrom 30 = .ok (.aload_n 0, 1) := by decide +kernel
theorem dX2_copyFrom_31 : decode cX2_copyFrom 31 = .ok (.aload_n 1, 1) := by decide +kernel
theorem dX2_copyFrom_32 : decode cX2_copyFrom 32 = .ok (.getfield 18, 3) := by decide +kernel
theorem dX2_copyFrom_35 : decode cX2_copyFrom 35 = .ok (.putfield 18, 3) := by decide +kernel
theorem dX2_copyFrom_38 : decode cX2_copyFrom 38 = .ok (.aload_n 0, 1) := by decide +kernel
theorem dX2_copyFrom_39 : decode cX2_copyFrom 39 = .ok (.aload_n 1, 1) := by decide +kernel
theorem dX2_copyFrom_40 : decode cX2_copyFrom 40 = .ok (.getfield 22, 3) := by decide +kernel
theorem dX2_copyFrom_43 : decode cX2_copyFrom 43 = .ok (.putfield 22, 3) := by decide +kernel
theorem dX2_copyFrom_46 : decode cX2_copyFrom 46 = .ok (.return_, 1) := by decide +kernel
theorem dX2_countByMarking_0 : decode cX2_countByMarking 0 = .ok (.iload_n 1, 1) := by decide +kernel
theorem dX2_countByMarking_1 : decode cX2_countByMarking 1 = .ok (.iload_n 2, 1) := by decide +kernel
theorem dX2_countByMarking_2 : decode cX2_countByMarking 2 = .ok (.invokestatic 31, 3) := by decide +kernel
theorem dX2_countByMarking_5 : decode cX2_countByMarking 5 = .ok (.istore_n 3, 1) := by decide +kernel
theorem dX2_countByMarking_6 : decode cX2_countByMarking 6 = .ok (.iconst 0, 1) := by decide +kernel
theorem dX2_countByMarking_7 : decode cX2_countByMarking 7 = .ok (.istore 4, 2) := by decide +kernel
theorem dX2_countByMarking_9 : decode cX2_countByMarking 9 = .ok (.iload_n 1, 1) := by decide +kernel
theorem dX2_countByMarking_10 : decode cX2_countByMarking 10 = .ok (.iload_n 2, 1) := by decide +kernel
theorem dX2_countByMarking_11 : decode cX2_countByMarking 11 = .ok (.invokestatic 37, 3) := by decide +kernel
theorem dX2_countByMarking_14 : decode cX2_countByMarking 14 = .ok (.istore 5, 2) := by decide +kernel
theorem dX2_countByMarking_16 : decode cX2_countByMarking 16 = .ok (.iload 5, 2) := by decide +kernel
theorem dX2_countByMarking_18 : decode cX2_countByMarking 18 = .ok (.iload_n 3, 1) := by decide +kernel
theorem dX2_countByMarking_19 : decode cX2_countByMarking 19 = .ok (.if_icmp .gt 23, 3) := by decide +kernel
theorem dX2_countByMarking_22 : decode cX2_countByMarking 22 = .ok (.iload 4, 2) := by decide +kernel
theorem dX2_countByMarking_24 : decode cX2_countByMarking 24 = .ok (.iconst 1, 1) := by decide +kernel
theorem dX2_countByMarking_25 : decode cX2_countByMarking 25 = .ok (.aload_n 0, 1) := by decide +kernel
theorem dX2_countByMarking_26 : decode cX2_countByMarking 26 = .ok (.getfield 9, 3) := by decide +kernel
theorem dX2_countByMarking_29 : decode cX2_countByMarking 29 = .ok (.iload 5, 2) := by decide +kernel
theorem dX2_countByMarking_31 : decode cX2_countByMarking 31 = .ok (.iaload, 1) := by decide +kernel
theorem dX2_countByMarking_32 : decode cX2_countByMarking 32 = .ok (.ishl, 1) := by decide +kernel
theorem dX2_countByMarking_33 : decode cX2_countByMarking 33 = .ok (.ior, 1) := by decide +kernel
theorem dX2_countByMarking_34 : decode cX2_countByMarking 34 = .ok (.istore 4, 2) := by decide +kernel
theorem dX2_countByMarking_36 : decode cX2_countByMarking 36 = .ok (.iinc 5 1, 3) := by decide +kernel
theorem dX2_countByMarking_39 : decode cX2_countByMarking 39 = .ok (.goto (-23), 3) := by decide +kernel
theorem dX2_countByMarking_42 : decode cX2_countByMarking 42 = .ok (.iload 4, 2) := by decide +kernel
theorem dX2_countByMarking_44 : decode cX2_countByMarking 44 = .ok (.invokestatic 40, 3) := by decide +kernel
theorem dX2_countByMarking_47 : decode cX2_countByMarking 47 = .ok (.ireturn, 1) := by decide +kernel
theorem dX2_countByPairs_0 : decode cX2_countByPairs 0 = .ok (.iload_n 1, 1) := by decide +kernel
theorem dX2_countByPairs_1 : decode cX2_countByPairs 1 = .ok (.iload_n 2, 1) := by decide +kernel
theorem dX2_countByPairs_2 : decode cX2_countByPairs 2 = .ok (.invokestatic 37, 3) := by decide +kernel
theorem dX2_countByPairs_5 : decode cX2_countByPairs 5 = .ok (.istore_n 3, 1) := by decide +kernel
theorem dX2_countByPairs_6 : decode cX2_countByPairs 6 = .ok (.iload_n 1, 1) := by decide +kernel
theorem dX2_countByPairs_7 : decode cX2_countByPairs 7 = .ok (.iload_n 2, 1) := by decide +kernel
theorem dX2_countByPairs_8 : decode cX2_countByPairs 8 = .ok (.invokestatic 31, 3) := by decide +kernel
theorem dX2_countByPairs_11 : decode cX2_countByPairs 11 = .ok (.istore 4, 2) := by decide +kernel
theorem dX2_countByPairs_13 : decode cX2_countByPairs 13 = .ok (.iconst 0, 1) := by decide +kernel
theorem dX2_countByPairs_14 : decode cX2_countByPairs 14 = .ok (.istore 5, 2) := by decide +kernel
theorem dX2_countByPairs_16 : decode cX2_countByPairs 16 = .ok (.iload_n 3, 1) := by decide +kernel
theorem dX2_countByPairs_17 : decode cX2_countByPairs 17 = .ok (.istore 6, 2) := by decide +kernel
theorem dX2_countByPairs_19 : decode cX2_countByPairs 19 = .ok (.iload 6, 2) := by decide +kernel
theorem dX2_countByPairs_21 : decode cX2_countByPairs 21 = .ok (.iload 4, 2) := by decide +kernel
theorem dX2_countByPairs_23 : decode cX2_countByPairs 23 = .ok (.if_icmp .gt 56, 3) := by decide +kernel
theorem dX2_countByPairs_26 : decode cX2_countByPairs 26 = .ok (.iconst 1, 1) := by decide +kernel
theorem dX2_countByPairs_27 : decode cX2_countByPairs 27 = .ok (.istore 7, 2) := by decide +kernel
theorem dX2_countByPairs_29 : decode cX2_countByPairs 29 = .ok (.iload_n 3, 1) := by decide +kernel
theorem dX2_countByPairs_30 : decode cX2_countByPairs 30 = .ok (.istore 8, 2) := by decide +kernel
theorem dX2_countByPairs_32 : decode cX2_countByPairs 32 = .ok (.iload 8, 2) := by decide +kernel
theorem dX2_countByPairs_34 : decode cX2_countByPairs 34 = .ok (.iload 6, 2) := by decide +kernel
theorem dX2_countByPairs_36 : decode cX2_countByPairs 36 = .ok (.if_icmp .ge 29, 3) := by decide +kernel
theorem dX2_countByPairs_39 : decode cX2_countByPairs 39 = .ok (.aload_n 0, 1) := by decide +kernel
theorem dX2_countByPairs_40 : decode cX2_countByPairs 40 = .ok (.getfield 9, 3) := by decide +kernel
theorem dX2_countByPairs_43 : decode cX2_countByPairs 43 = .ok (.iload 8, 2) := by decide +kernel
theorem dX2_countByPairs_45 : decode cX2_countByPairs 45 = .ok (.iaload, 1) := by decide +kernel
theorem dX2_countByPairs_46 : decode cX2_countByPairs 46 = .ok (.aload_n 0, 1) := by decide +kernel
theorem dX2_countByPairs_47 : decode cX2_countByPairs 47 = .ok (.getfield 9, 3) := by decide +kernel
theorem dX2_countByPairs_50 : decode cX2_countByPairs 50 = .ok (.iload 6, 2) := by decide +kernel
theorem dX2_countByPairs_52 : decode cX2_countByPairs 52 = .ok (.iaload, 1) := by decide +kernel
theorem dX2_countByPairs_53 : decode cX2_countByPairs 53 = .ok (.if_icmp .ne 6, 3) := by decide +kernel
theorem dX2_countByPairs_56 : decode cX2_countByPairs 56 = .ok (.iconst 0, 1) := by decide +kernel
theorem dX2_countByPairs_57 : decode cX2_countByPairs 57 = .ok (.istore 7, 2) := by decide +kernel
theorem dX2_countByPairs_59 : decode cX2_countByPairs 59 = .ok (.iinc 8 1, 3) := by decide +kernel
theorem dX2_countByPairs_62 : decode cX2_countByPairs 62 = .ok (.goto (-30), 3) := by decide +kernel
theorem dX2_countByPairs_65 : decode cX2_countByPairs 65 = .ok (.iload 7, 2) := by decide +kernel
theorem dX2_countByPairs_67 : decode cX2_countByPairs 67 = .ok (.ifCond .eq 6, 3) := by decide +kernel
theorem dX2_countByPairs_70 : decode cX2_countByPairs 70 = .ok (.iinc 5 1, 3) := by decide +kernel
theorem dX2_countByPairs_73 : decode cX2_countByPairs 73 = .ok (.iinc 6 1, 3) := by decide +kernel
theorem dX2_countByPairs_76 : decode cX2_countByPairs 76 = .ok (.goto (-57), 3) := by decide +kernel
theorem dX2_countByPairs_79 : decode cX2_countByPairs 79 = .ok (.iload 5, 2) := by decide +kernel
theorem dX2_countByPairs_81 : decode cX2_countByPairs 81 = .ok (.ireturn, 1) := by decide +kernel
theorem dX2_countsAgree_0 : decode cX2_countsAgree 0 = .ok (.iconst 0, 1) := by decide +kernel
theorem dX2_countsAgree_1 : decode cX2_countsAgree 1 = .ok (.istore_n 1, 1) := by decide +kernel
theorem dX2_countsAgree_2 : decode cX2_countsAgree 2 = .ok (.iload_n 1, 1) := by decide +kernel
theorem dX2_countsAgree_3 : decode cX2_countsAgree 3 = .ok (.bipush 12, 2) := by decide +kernel
theorem dX2_countsAgree_5 : decode cX2_countsAgree 5 = .ok (.if_icmp .ge 40, 3) := by decide +kernel
theorem dX2_countsAgree_8 : decode cX2_countsAgree 8 = .ok (.iconst 0, 1) := by decide +kernel
theorem dX2_countsAgree_9 : decode cX2_countsAgree 9 = .ok (.istore_n 2, 1) := by decide +kernel
theorem dX2_countsAgree_10 : decode cX2_countsAgree 10 = .ok (.iload_n 2, 1) := by decide +kernel
theorem dX2_countsAgree_11 : decode cX2_countsAgree 11 = .ok (.bipush 12, 2) := by decide +kernel
theorem dX2_countsAgree_13 : decode cX2_countsAgree 13 = .ok (.if_icmp .ge 26, 3) := by decide +kernel
theorem dX2_countsAgree_16 : decode cX2_countsAgree 16 = .ok (.aload_n 0, 1) := by decide +kernel
theorem dX2_countsAgree_17 : decode cX2_countsAgree 17 = .ok (.iload_n 1, 1) := by decide +kernel
theorem dX2_countsAgree_18 : decode cX2_countsAgree 18 = .ok (.iload_n 2, 1) := by decide +kernel
theorem dX2_countsAgree_19 : decode cX2_countsAgree 19 = .ok (.invokevirtual 46, 3) := by decide +kernel
theorem dX2_countsAgree_22 : decode cX2_countsAgree 22 = .ok (.aload_n 0, 1) := by decide +kernel
theorem dX2_countsAgree_23 : decode cX2_countsAgree 23 = .ok (.iload_n 1, 1) := by decide +kernel
theorem dX2_countsAgree_24 : decode cX2_countsAgree 24 = .ok (.iload_n 2, 1) := by decide +kernel
theorem dX2_countsAgree_25 : decode cX2_countsAgree 25 = .ok (.invokevirtual 49, 3) := by decide +kernel
theorem dX2_countsAgree_28 : decode cX2_countsAgree 28 = .ok (.if_icmp .eq 5, 3) := by decide +kernel
theorem dX2_countsAgree_31 : decode cX2_countsAgree 31 = .ok (.iconst 0, 1) := by decide +kernel
theorem dX2_countsAgree_32 : decode cX2_countsAgree 32 = .ok (.ireturn, 1) := by decide +kernel
theorem dX2_countsAgree_33 : decode cX2_countsAgree 33 = .ok (.iinc 2 1, 3) := by decide +kernel
theorem dX2_countsAgree_36 : decode cX2_countsAgree 36 = .ok (.goto (-26), 3) := by decide +kernel
theorem dX2_countsAgree_39 : decode cX2_countsAgree 39 = .ok (.iinc 1 1, 3) := by decide +kernel
theorem dX2_countsAgree_42 : decode cX2_countsAgree 42 = .ok (.goto (-40), 3) := by decide +kernel
theorem dX2_countsAgree_45 : decode cX2_countsAgree 45 = .ok (.iconst 1, 1) := by decide +kernel
theorem dX2_countsAgree_46 : decode cX2_countsAgree 46 = .ok (.ireturn, 1) := by decide +kernel
theorem dX2_fullFare_0 : decode cX2_fullFare 0 = .ok (.aload_n 0, 1) := by decide +kernel
theorem dX2_fullFare_1 : decode cX2_fullFare 1 = .ok (.getfield 18, 3) := by decide +kernel
theorem dX2_fullFare_4 : decode cX2_fullFare 4 = .ok (.aload_n 0, 1) := by decide +kernel
theorem dX2_fullFare_5 : decode cX2_fullFare 5 = .ok (.getfield 22, 3) := by decide +kernel
theorem dX2_fullFare_8 : decode cX2_fullFare 8 = .ok (.aload_n 0, 1) := by decide +kernel
theorem dX2_fullFare_9 : decode cX2_fullFare 9 = .ok (.iload_n 1, 1) := by decide +kernel
theorem dX2_fullFare_10 : decode cX2_fullFare 10 = .ok (.iload_n 2, 1) := by decide +kernel
theorem dX2_fullFare_11 : decode cX2_fullFare 11 = .ok (.invokevirtual 46, 3) := by decide +kernel
theorem dX2_fullFare_14 : decode cX2_fullFare 14 = .ok (.iconst 1, 1) := by decide +kernel
theorem dX2_fullFare_15 : decode cX2_fullFare 15 = .ok (.isub, 1) := by decide +kernel
theorem dX2_fullFare_16 : decode cX2_fullFare 16 = .ok (.imul, 1) := by decide +kernel
theorem dX2_fullFare_17 : decode cX2_fullFare 17 = .ok (.iadd, 1) := by decide +kernel
theorem dX2_fullFare_18 : decode cX2_fullFare 18 = .ok (.ireturn, 1) := by decide +kernel
theorem dX2_fullDefault_0 : decode cX2_fullDefault 0 = .ok (.aload_n 0, 1) := by decide +kernel
theorem dX2_fullDefault_1 : decode cX2_fullDefault 1 = .ok (.getfield 18, 3) := by decide +kernel
theorem dX2_fullDefault_4 : decode cX2_fullDefault 4 = .ok (.iconst 5, 1) := by decide +kernel
theorem dX2_fullDefault_5 : decode cX2_fullDefault 5 = .ok (.aload_n 0, 1) := by decide +kernel
theorem dX2_fullDefault_6 : decode cX2_fullDefault 6 = .ok (.getfield 22, 3) := by decide +kernel
theorem dX2_fullDefault_9 : decode cX2_fullDefault 9 = .ok (.imul, 1) := by decide +kernel
theorem dX2_fullDefault_10 : decode cX2_fullDefault 10 = .ok (.iadd, 1) := by decide +kernel
theorem dX2_fullDefault_11 : decode cX2_fullDefault 11 = .ok (.ireturn, 1) := by decide +kernel
theorem dX2_rankByTaps_0 : decode cX2_rankByTaps 0 = .ok (.iconst 0, 1) := by decide +kernel
theorem dX2_rankByTaps_1 : decode cX2_rankByTaps 1 = .ok (.istore_n 2, 1) := by decide +kernel
theorem dX2_rankByTaps_2 : decode cX2_rankByTaps 2 = .ok (.iconst 0, 1) := by decide +kernel
theorem dX2_rankByTaps_3 : decode cX2_rankByTaps 3 = .ok (.istore_n 3, 1) := by decide +kernel
theorem dX2_rankByTaps_4 : decode cX2_rankByTaps 4 = .ok (.iload_n 3, 1) := by decide +kernel
theorem dX2_rankByTaps_5 : decode cX2_rankByTaps 5 = .ok (.bipush 12, 2) := by decide +kernel
theorem dX2_rankByTaps_7 : decode cX2_rankByTaps 7 = .ok (.if_icmp .ge 59, 3) := by decide +kernel
theorem dX2_rankByTaps_10 : decode cX2_rankByTaps 10 = .ok (.aload_n 0, 1) := by decide +kernel
theorem dX2_rankByTaps_11 : decode cX2_rankByTaps 11 = .ok (.getfield 15, 3) := by decide +kernel
theorem dX2_rankByTaps_14 : decode cX2_rankByTaps 14 = .ok (.iload_n 3, 1) := by decide +kernel
theorem dX2_rankByTaps_15 : decode cX2_rankByTaps 15 = .ok (.iaload, 1) := by decide +kernel
theorem dX2_rankByTaps_16 : decode cX2_rankByTaps 16 = .ok (.aload_n 0, 1) := by decide +kernel
theorem dX2_rankByTaps_17 : decode cX2_rankByTaps 17 = .ok (.getfield 15, 3) := by decide +kernel
theorem dX2_rankByTaps_20 : decode cX2_rankByTaps 20 = .ok (.iload_n 1, 1) := by decide +kernel
theorem dX2_rankByTaps_21 : decode cX2_rankByTaps 21 = .ok (.iaload, 1) := by decide +kernel
theorem dX2_rankByTaps_22 : decode cX2_rankByTaps 22 = .ok (.if_icmp .ne 7, 3) := by decide +kernel
theorem dX2_rankByTaps_25 : decode cX2_rankByTaps 25 = .ok (.iconst 1, 1) := by decide +kernel
theorem dX2_rankByTaps_26 : decode cX2_rankByTaps 26 = .ok (.goto 4, 3) := by decide +kernel
theorem dX2_rankByTaps_29 : decode cX2_rankByTaps 29 = .ok (.iconst 0, 1) := by decide +kernel
theorem dX2_rankByTaps_30 : decode cX2_rankByTaps 30 = .ok (.istore 4, 2) := by decide +kernel
theorem dX2_rankByTaps_32 : decode cX2_rankByTaps 32 = .ok (.aload_n 0, 1) := by decide +kernel
theorem dX2_rankByTaps_33 : decode cX2_rankByTaps 33 = .ok (.getfield 15, 3) := by decide +kernel
theorem dX2_rankByTaps_36 : decode cX2_rankByTaps 36 = .ok (.iload_n 3, 1) := by decide +kernel
theorem dX2_rankByTaps_37 : decode cX2_rankByTaps 37 = .ok (.iaload, 1) := by decide +kernel
theorem dX2_rankByTaps_38 : decode cX2_rankByTaps 38 = .ok (.aload_n 0, 1) := by decide +kernel
theorem dX2_rankByTaps_39 : decode cX2_rankByTaps 39 = .ok (.getfield 15, 3) := by decide +kernel
theorem dX2_rankByTaps_42 : decode cX2_rankByTaps 42 = .ok (.iload_n 1, 1) := by decide +kernel
theorem dX2_rankByTaps_43 : decode cX2_rankByTaps 43 = .ok (.iaload, 1) := by decide +kernel
theorem dX2_rankByTaps_44 : decode cX2_rankByTaps 44 = .ok (.if_icmp .gt 13, 3) := by decide +kernel
theorem dX2_rankByTaps_47 : decode cX2_rankByTaps 47 = .ok (.iload 4, 2) := by decide +kernel
theorem dX2_rankByTaps_49 : decode cX2_rankByTaps 49 = .ok (.ifCond .eq 11, 3) := by decide +kernel
theorem dX2_rankByTaps_52 : decode cX2_rankByTaps 52 = .ok (.iload_n 3, 1) := by decide +kernel
theorem dX2_rankByTaps_53 : decode cX2_rankByTaps 53 = .ok (.iload_n 1, 1) := by decide +kernel
theorem dX2_rankByTaps_54 : decode cX2_rankByTaps 54 = .ok (.if_icmp .ge 6, 3) := by decide +kernel
theorem dX2_rankByTaps_57 : decode cX2_rankByTaps 57 = .ok (.iinc 2 1, 3) := by decide +kernel
theorem dX2_rankByTaps_60 : decode cX2_rankByTaps 60 = .ok (.iinc 3 1, 3) := by decide +kernel
theorem dX2_rankByTaps_63 : decode cX2_rankByTaps 63 = .ok (.goto (-59), 3) := by decide +kernel
theorem dX2_rankByTaps_66 : decode cX2_rankByTaps 66 = .ok (.iload_n 2, 1) := by decide +kernel
theorem dX2_rankByTaps_67 : decode cX2_rankByTaps 67 = .ok (.ireturn, 1) := by decide +kernel
