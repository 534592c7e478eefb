theorem dX0_init_0 : decode cX0_init 0 = .ok (.aload_n 0, 1) := by decide +kernel
theorem dX0_init_1 : decode cX0_init 1 = .ok (.invokespecial 3, 3) := by decide +kernel
theorem dX0_init_4 : decode cX0_init 4 = .ok (.aload_n 0, 1) := by decide +kernel
theorem dX0_init_5 : decode cX0_init 5 = .ok (.iconst 3, 1) := by decide +kernel
theorem dX0_init_6 : decode cX0_init 6 = .ok (.newarray .int, 2) := by decide +kernel
theorem dX0_init_8 : decode cX0_init 8 = .ok (.putfield 9, 3) := by decide +kernel
theorem dX0_init_11 : decode cX0_init 11 = .ok (.aload_n 0, 1) := by decide +kernel
theorem dX0_init_12 : decode cX0_init 12 = .ok (.iconst 3, 1) := by decide +kernel
theorem dX0_init_13 : decode cX0_init 13 = .ok (.newarray .int, 2) := by decide +kernel
theorem dX0_init_15 : decode cX0_init 15 = .ok (.putfield 15, 3) := by decide +kernel
theorem dX0_init_18 : decode cX0_init 18 = .ok (.return_, 1) := by decide +kernel
theorem dX0_startAnew_0 : decode cX0_startAnew 0 = .ok (.aload_n 0, 1) := by decide +kernel
theorem dX0_startAnew_1 : decode cX0_startAnew 1 = .ok (.iload_n 1, 1) := by decide +kernel
theorem dX0_startAnew_2 : decode cX0_startAnew 2 = .ok (.putfield 18, 3) := by decide +kernel
theorem dX0_startAnew_5 : decode cX0_startAnew 5 = .ok (.aload_n 0, 1) := by decide +kernel
theorem dX0_startAnew_6 : decode cX0_startAnew 6 = .ok (.iconst 0, 1) := by decide +kernel
theorem dX0_startAnew_7 : decode cX0_startAnew 7 = .ok (.putfield 22, 3) := by decide +kernel
theorem dX0_startAnew_10 : decode cX0_startAnew 10 = .ok (.aload_n 0, 1) := by decide +kernel
theorem dX0_startAnew_11 : decode cX0_startAnew 11 = .ok (.iconst 0, 1) := by decide +kernel
theorem dX0_startAnew_12 : decode cX0_startAnew 12 = .ok (.putfield 26, 3) := by decide +kernel
theorem dX0_startAnew_15 : decode cX0_startAnew 15 = .ok (.aload_n 0, 1) := by decide +kernel
theorem dX0_startAnew_16 : decode cX0_startAnew 16 = .ok (.iconst 0, 1) := by decide +kernel
theorem dX0_startAnew_17 : decode cX0_startAnew 17 = .ok (.putfield 29, 3) := by decide +kernel
theorem dX0_startAnew_20 : decode cX0_startAnew 20 = .ok (.aload_n 0, 1) := by decide +kernel
theorem dX0_startAnew_21 : decode cX0_startAnew 21 = .ok (.iconst 0, 1) := by decide +kernel
theorem dX0_startAnew_22 : decode cX0_startAnew 22 = .ok (.putfield 32, 3) := by decide +kernel
theorem dX0_startAnew_25 : decode cX0_startAnew 25 = .ok (.iconst 0, 1) := by decide +kernel
theorem dX0_startAnew_26 : decode cX0_startAnew 26 = .ok (.istore_n 2, 1) := by decide +kernel
theorem dX0_startAnew_27 : decode cX0_startAnew 27 = .ok (.iload_n 2, 1) := by decide +kernel
theorem dX0_startAnew_28 : decode cX0_startAnew 28 = .ok (.iconst 3, 1) := by decide +kernel
theorem dX0_startAnew_29 : decode cX0_startAnew 29 = .ok (.if_icmp .ge 16, 3) := by decide +kernel
theorem dX0_startAnew_32 : decode cX0_startAnew 32 = .ok (.aload_n 0, 1) := by decide +kernel
theorem dX0_startAnew_33 : decode cX0_startAnew 33 = .ok (.getfield 9, 3) := by decide +kernel
theorem dX0_startAnew_36 : decode cX0_startAnew 36 = .ok (.iload_n 2, 1) := by decide +kernel
theorem dX0_startAnew_37 : decode cX0_startAnew 37 = .ok (.iconst (-1), 1) := by decide +kernel
theorem dX0_startAnew_38 : decode cX0_startAnew 38 = .ok (.iastore, 1) := by decide +kernel
theorem dX0_startAnew_39 : decode cX0_startAnew 39 = .ok (.iinc 2 1, 3) := by decide +kernel
theorem dX0_startAnew_42 : decode cX0_startAnew 42 = .ok (.goto (-15), 3) := by decide +kernel
theorem dX0_startAnew_45 : decode cX0_startAnew 45 = .ok (.aload_n 0, 1) := by decide +kernel
theorem dX0_startAnew_46 : decode cX0_startAnew 46 = .ok (.aconst_null, 1) := by decide +kernel
theorem dX0_startAnew_47 : decode cX0_startAnew 47 = .ok (.putfield 35, 3) := by decide +kernel
theorem dX0_startAnew_50 : decode cX0_startAnew 50 = .ok (.return_, 1) := by decide +kernel
theorem dX0_copyFrom_0 : decode cX0_copyFrom 0 = .ok (.aload_n 0, 1) := by decide +kernel
theorem dX0_copyFrom_1 : decode cX0_copyFrom 1 = .ok (.aload_n 1, 1) := by decide +kernel
theorem dX0_copyFrom_2 : decode cX0_copyFrom 2 = .ok (.getfield 18, 3) := by decide +kernel
theorem dX0_copyFrom_5 : decode cX0_copyFrom 5 = .ok (.putfield 18, 3) := by decide +kernel
theorem dX0_copyFrom_8 : decode cX0_copyFrom 8 = .ok (.aload_n 0, 1) := by decide +kernel
theorem dX0_copyFrom_9 : decode cX0_copyFrom 9 = .ok (.aload_n 1, 1) := by decide +kernel
theorem dX0_copyFrom_10 : decode cX0_copyFrom 10 = .ok (.getfield 22, 3) := by decide +kernel
theorem dX0_copyFrom_13 : decode cX0_copyFrom 13 = .ok (.putfield 22, 3) := by decide +kernel
theorem dX0_copyFrom_16 : decode cX0_copyFrom 16 = .ok (.aload_n 0, 1) := by decide +kernel
theorem dX0_copyFrom_17 : decode cX0_copyFrom 17 = .ok (.aload_n 1, 1) := by decide +kernel
theorem dX0_copyFrom_18 : decode cX0_copyFrom 18 = .ok (.getfield 26, 3) := by decide +kernel
theorem dX0_copyFrom_21 : decode cX0_copyFrom 21 = .ok (.putfield 26, 3) := by decide +kernel
theorem dX0_copyFrom_24 : decode cX0_copyFrom 24 = .ok (.aload_n 0, 1) := by decide +kernel
theorem dX0_copyFrom_25 : decode cX0_copyFrom 25 = .ok (.aload_n 1, 1) := by decide +kernel
theorem dX0_copyFrom_26 : decode cX0_copyFrom 26 = .ok (.getfield 39, 3) := by decide +kernel
theorem dX0_copyFrom_29 : decode cX0_copyFrom 29 = .ok (.putfield 39, 3) := by decide +kernel
theorem dX0_copyFrom_32 : decode cX0_copyFrom 32 = .ok (.aload_n 0, 1) := by decide +kernel
theorem dX0_copyFrom_33 : decode cX0_copyFrom 33 = .ok (.aload_n 1, 1) := by decide +kernel
theorem dX0_copyFrom_34 : decode cX0_copyFrom 34 = .ok (.getfield 42, 3) := by decide +kernel
theorem dX0_copyFrom_37 : decode cX0_copyFrom 37 = .ok (.putfield 42, 3) := by decide +kernel
theorem dX0_copyFrom_40 : decode cX0_copyFrom 40 = .ok (.aload_n 0, 1) := by decide +kernel
theorem dX0_copyFrom_41 : decode cX0_copyFrom 41 = .ok (.aload_n 1, 1) := by decide +kernel
theorem dX0_copyFrom_42 : decode cX0_copyFrom 42 = .ok (.getfield 45, 3) := by decide +kernel
theorem dX0_copyFrom_45 : decode cX0_copyFrom 45 = .ok (.putfield 45, 3) := by decide +kernel
theorem dX0_copyFrom_48 : decode cX0_copyFrom 48 = .ok (.aload_n 0, 1) := by decide +kernel
theorem dX0_copyFrom_49 : decode cX0_copyFrom 49 = .ok (.aload_n 1, 1) := by decide +kernel
theorem dX0_copyFrom_50 : decode cX0_copyFrom 50 = .ok (.getfield 48, 3) := by decide +kernel
theorem dX0_copyFrom_53 : decode cX0_copyFrom 53 = .ok (.putfield 48, 3) := by decide +kernel
theorem dX0_copyFrom_56 : decode cX0_copyFrom 56 = .ok (.aload_n 0, 1) := by decide +kernel
theorem dX0_copyFrom_57 : decode cX0_copyFrom 57 = .ok (.aload_n 1, 1) := by decide +kernel
theorem dX0_copyFrom_58 : decode cX0_copyFrom 58 = .ok (.getfield 29, 3) := by decide +kernel
theorem dX0_copyFrom_61 : decode cX0_copyFrom 61 = .ok (.putfield 29, 3) := by decide +kernel
theorem dX0_copyFrom_64 : decode cX0_copyFrom 64 = .ok (.aload_n 0, 1) := by decide +kernel
theorem dX0_copyFrom_65 : decode cX0_copyFrom 65 = .ok (.aload_n 1, 1) := by decide +kernel
theorem dX0_copyFrom_66 : decode cX0_copyFrom 66 = .ok (.getfield 51, 3) := by decide +kernel
theorem dX0_copyFrom_69 : decode cX0_copyFrom 69 = .ok (.putfield 51, 3) := by decide +kernel
theorem dX0_copyFrom_72 : decode cX0_copyFrom 72 = .ok (.aload_n 0, 1) := by decide +kernel
theorem dX0_copyFrom_73 : decode cX0_copyFrom 73 = .ok (.aload_n 1, 1) := by decide +kernel
theorem dX0_copyFrom_74 : decode cX0_copyFrom 74 = .ok (.getfield 54, 3) := by decide +kernel
theorem dX0_copyFrom_77 : decode cX0_copyFrom 77 = .ok (.putfield 54, 3) := by decide +kernel
theorem dX0_copyFrom_80 : decode cX0_copyFrom 80 = .ok (.aload_n 0, 1) := by decide +kernel
theorem dX0_copyFrom_81 : decode cX0_copyFrom 81 = .ok (.aload_n 1, 1) := by decide +kernel
theorem dX0_copyFrom_82 : decode cX0_copyFrom 82 = .ok (.getfield 32, 3) := by decide +kernel
theorem dX0_copyFrom_85 : decode cX0_copyFrom 85 = .ok (.putfield 32, 3) := by decide +kernel
theorem dX0_copyFrom_88 : decode cX0_copyFrom 88 = .ok (.aload_n 0, 1) := by decide +kernel
theorem dX0_copyFrom_89 : decode cX0_copyFrom 89 = .ok (.aload_n 1, 1) := by decide +kernel
theorem dX0_copyFrom_90 : decode cX0_copyFrom 90 = .ok (.getfield 57, 3) := by decide +kernel
theorem dX0_copyFrom_93 : decode cX0_copyFrom 93 = .ok (.putfield 57, 3) := by decide +kernel
theorem dX0_copyFrom_96 : decode cX0_copyFrom 96 = .ok (.aload_n 0, 1) := by decide +kernel
theorem dX0_copyFrom_97 : decode cX0_copyFrom 97 = .ok (.aload_n 1, 1) := by decide +kernel
theorem dX0_copyFrom_98 : decode cX0_copyFrom 98 = .ok (.getfield 60, 3) := by decide +kernel
theorem dX0_copyFrom_101 : decode cX0_copyFrom 101 = .ok (.putfield 60, 3) := by decide +kernel
theorem dX0_copyFrom_104 : decode cX0_copyFrom 104 = .ok (.aload_n 0, 1) := by decide +kernel
theorem dX0_copyFrom_105 : decode cX0_copyFrom 105 = .ok (.aload_n 1, 1) := by decide +kernel
theorem dX0_copyFrom_106 : decode cX0_copyFrom 106 = .ok (.getfield 63, 3) := by decide +kernel
theorem dX0_copyFrom_109 : decode cX0_copyFrom 109 = .ok (.putfield 63, 3) := by decide +kernel
theorem dX0_copyFrom_112 : decode cX0_copyFrom 112 = .ok (.aload_n 1, 1) := by decide +kernel
theorem dX0_copyFrom_113 : decode cX0_copyFrom 113 = .ok (.getfield 9, 3) := by decide +kernel
theorem dX0_copyFrom_116 : decode cX0_copyFrom 116 = .ok (.iconst 0, 1) := by decide +kernel
theorem dX0_copyFrom_117 : decode cX0_copyFrom 117 = .ok (.aload_n 0, 1) := by decide +kernel
theorem dX0_copyFrom_118 : decode cX0_copyFrom 118 = .ok (.getfield 9, 3) := by decide +kernel
theorem dX0_copyFrom_121 : decode cX0_copyFrom 121 = .ok (.iconst 0, 1) := by decide +kernel
theorem dX0_copyFrom_122 : decode cX0_copyFrom 122 = .ok (.iconst 3, 1) := by decide +kernel
theorem dX0_copyFrom_123 : decode cX0_copyFrom 123 = .ok (.invokestatic 66, 3) := by decide +kernel
theorem dX0_copyFrom_126 : decode cX0_copyFrom 126 = .ok (.aload_n 1, 1) := by decide +kernel
theorem dX0_copyFrom_127 : decode cX0_copyFrom 127 = .ok (.getfield 15, 3) := by decide +kernel
theorem dX0_copyFrom_130 : decode cX0_copyFrom 130 = .ok (.iconst 0, 1) := by decide +kernel
theorem dX0_copyFrom_131 : decode cX0_copyFrom 131 = .ok (.aload_n 0, 1) := by decide +kernel
theorem dX0_copyFrom_132 : decode cX0_copyFrom 132 = .ok (.getfield 15, 3) := by decide +kernel
theorem dX0_copyFrom_135 : decode cX0_copyFrom 135 = .ok (.iconst 0, 1) := by decide +kernel
theorem dX0_copyFrom_136 : decode cX0_copyFrom 136 = .ok (.iconst 3, 1) := by decide +kernel
theorem dX0_copyFrom_137 : decode cX0_copyFrom 137 = .ok (.invokestatic 66, 3) := by decide +kernel
theorem dX0_copyFrom_140 : decode cX0_copyFrom 140 = .ok (.aload_n 0, 1) := by decide +kernel
theorem dX0_copyFrom_141 : decode cX0_copyFrom 141 = .ok (.aload_n 1, 1) := by decide +kernel
theorem dX0_copyFrom_142 : decode cX0_copyFrom 142 = .ok (.getfield 35, 3) := by decide +kernel
theorem dX0_copyFrom_145 : decode cX0_copyFrom 145 = .ok (.putfield 35, 3) := by decide +kernel
theorem dX0_copyFrom_148 : decode cX0_copyFrom 148 = .ok (.return_, 1) := by decide +kernel
theorem dX0_dailyCap_0 : decode cX0_dailyCap 0 = .ok (.aload_n 0, 1) := by decide +kernel
theorem dX0_dailyCap_1 : decode cX0_dailyCap 1 = .ok (.getfield 18, 3) := by decide +kernel
theorem dX0_dailyCap_4 : decode cX0_dailyCap 4 = .ok (.ifCond .eq 9, 3) := by decide +kernel
theorem dX0_dailyCap_7 : decode cX0_dailyCap 7 = .ok (.sipush 350, 3) := by decide +kernel
theorem dX0_dailyCap_10 : decode cX0_dailyCap 10 = .ok (.goto 6, 3) := by decide +kernel
theorem dX0_dailyCap_13 : decode cX0_dailyCap 13 = .ok (.sipush 700, 3) := by decide +kernel
theorem dX0_dailyCap_16 : decode cX0_dailyCap 16 = .ok (.ireturn, 1) := by decide +kernel
theorem dX0_ownPrice_0 : decode cX0_ownPrice 0 = .ok (.aload_n 0, 1) := by decide +kernel
theorem dX0_ownPrice_1 : decode cX0_ownPrice 1 = .ok (.getfield 18, 3) := by decide +kernel
theorem dX0_ownPrice_4 : decode cX0_ownPrice 4 = .ok (.ifCond .eq 9, 3) := by decide +kernel
theorem dX0_ownPrice_7 : decode cX0_ownPrice 7 = .ok (.iload_n 1, 1) := by decide +kernel
theorem dX0_ownPrice_8 : decode cX0_ownPrice 8 = .ok (.iconst 2, 1) := by decide +kernel
theorem dX0_ownPrice_9 : decode cX0_ownPrice 9 = .ok (.idiv, 1) := by decide +kernel
theorem dX0_ownPrice_10 : decode cX0_ownPrice 10 = .ok (.goto 4, 3) := by decide +kernel
theorem dX0_ownPrice_13 : decode cX0_ownPrice 13 = .ok (.iload_n 1, 1) := by decide +kernel
theorem dX0_ownPrice_14 : decode cX0_ownPrice 14 = .ok (.ireturn, 1) := by decide +kernel
theorem dX0_sumOf_0 : decode cX0_sumOf 0 = .ok (.iload_n 1, 1) := by decide +kernel
theorem dX0_sumOf_1 : decode cX0_sumOf 1 = .ok (.iconst 3, 1) := by decide +kernel
theorem dX0_sumOf_2 : decode cX0_sumOf 2 = .ok (.invokestatic 72, 3) := by decide +kernel
theorem dX0_sumOf_5 : decode cX0_sumOf 5 = .ok (.istore_n 2, 1) := by decide +kernel
theorem dX0_sumOf_6 : decode cX0_sumOf 6 = .ok (.aload_n 0, 1) := by decide +kernel
theorem dX0_sumOf_7 : decode cX0_sumOf 7 = .ok (.getfield 9, 3) := by decide +kernel
theorem dX0_sumOf_10 : decode cX0_sumOf 10 = .ok (.iload_n 2, 1) := by decide +kernel
theorem dX0_sumOf_11 : decode cX0_sumOf 11 = .ok (.iaload, 1) := by decide +kernel
theorem dX0_sumOf_12 : decode cX0_sumOf 12 = .ok (.iload_n 1, 1) := by decide +kernel
theorem dX0_sumOf_13 : decode cX0_sumOf 13 = .ok (.if_icmp .ne 12, 3) := by decide +kernel
theorem dX0_sumOf_16 : decode cX0_sumOf 16 = .ok (.aload_n 0, 1) := by decide +kernel
theorem dX0_sumOf_17 : decode cX0_sumOf 17 = .ok (.getfield 15, 3) := by decide +kernel
theorem dX0_sumOf_20 : decode cX0_sumOf 20 = .ok (.iload_n 2, 1) := by decide +kernel
theorem dX0_sumOf_21 : decode cX0_sumOf 21 = .ok (.iaload, 1) := by decide +kernel
theorem dX0_sumOf_22 : decode cX0_sumOf 22 = .ok (.goto 4, 3) := by decide +kernel
theorem dX0_sumOf_25 : decode cX0_sumOf 25 = .ok (.iconst 0, 1) := by decide +kernel
theorem dX0_sumOf_26 : decode cX0_sumOf 26 = .ok (.ireturn, 1) := by decide +kernel
theorem dX0_sumOfRecords_0 : decode cX0_sumOfRecords 0 = .ok (.iconst 0, 1) := by decide +kernel
theorem dX0_sumOfRecords_1 : decode cX0_sumOfRecords 1 = .ok (.istore_n 2, 1) := by decide +kernel
theorem dX0_sumOfRecords_2 : decode cX0_sumOfRecords 2 = .ok (.aload_n 0, 1) := by decide +kernel
theorem dX0_sumOfRecords_3 : decode cX0_sumOfRecords 3 = .ok (.getfield 35, 3) := by decide +kernel
theorem dX0_sumOfRecords_6 : decode cX0_sumOfRecords 6 = .ok (.astore_n 3, 1) := by decide +kernel
theorem dX0_sumOfRecords_7 : decode cX0_sumOfRecords 7 = .ok (.aload_n 3, 1) := by decide +kernel
theorem dX0_sumOfRecords_8 : decode cX0_sumOfRecords 8 = .ok (.ifnull 26, 3) := by decide +kernel
theorem dX0_sumOfRecords_11 : decode cX0_sumOfRecords 11 = .ok (.aload_n 3, 1) := by decide +kernel
theorem dX0_sumOfRecords_12 : decode cX0_sumOfRecords 12 = .ok (.getfield 78, 3) := by decide +kernel
theorem dX0_sumOfRecords_15 : decode cX0_sumOfRecords 15 = .ok (.iload_n 1, 1) := by decide +kernel
theorem dX0_sumOfRecords_16 : decode cX0_sumOfRecords 16 = .ok (.if_icmp .ne 10, 3) := by decide +kernel
theorem dX0_sumOfRecords_19 : decode cX0_sumOfRecords 19 = .ok (.iload_n 2, 1) := by decide +kernel
theorem dX0_sumOfRecords_20 : decode cX0_sumOfRecords 20 = .ok (.aload_n 3, 1) := by decide +kernel
theorem dX0_sumOfRecords_21 : decode cX0_sumOfRecords 21 = .ok (.getfield 83, 3) := by decide +kernel
theorem dX0_sumOfRecords_24 : decode cX0_sumOfRecords 24 = .ok (.iadd, 1) := by decide +kernel
theorem dX0_sumOfRecords_25 : decode cX0_sumOfRecords 25 = .ok (.istore_n 2, 1) := by decide +kernel
theorem dX0_sumOfRecords_26 : decode cX0_sumOfRecords 26 = .ok (.aload_n 3, 1) := by decide +kernel
theorem dX0_sumOfRecords_27 : decode cX0_sumOfRecords 27 = .ok (.getfield 84, 3) := by decide +kernel
theorem dX0_sumOfRecords_30 : decode cX0_sumOfRecords 30 = .ok (.astore_n 3, 1) := by decide +kernel
theorem dX0_sumOfRecords_31 : decode cX0_sumOfRecords 31 = .ok (.goto (-24), 3) := by decide +kernel
theorem dX0_sumOfRecords_34 : decode cX0_sumOfRecords 34 = .ok (.iload_n 2, 1) := by decide +kernel
theorem dX0_sumOfRecords_35 : decode cX0_sumOfRecords 35 = .ok (.ireturn, 1) := by decide +kernel
theorem dX0_leftOn_0 : decode cX0_leftOn 0 = .ok (.aload_n 0, 1) := by decide +kernel
theorem dX0_leftOn_1 : decode cX0_leftOn 1 = .ok (.invokevirtual 87, 3) := by decide +kernel
theorem dX0_leftOn_4 : decode cX0_leftOn 4 = .ok (.aload_n 0, 1) := by decide +kernel
theorem dX0_leftOn_5 : decode cX0_leftOn 5 = .ok (.iload_n 1, 1) := by decide +kernel
theorem dX0_leftOn_6 : decode cX0_leftOn 6 = .ok (.invokevirtual 91, 3) := by decide +kernel
theorem dX0_leftOn_9 : decode cX0_leftOn 9 = .ok (.isub, 1) := by decide +kernel
theorem dX0_leftOn_10 : decode cX0_leftOn 10 = .ok (.ireturn, 1) := by decide +kernel
theorem dX0_tripEnd_0 : decode cX0_tripEnd 0 = .ok (.aload_n 0, 1) := by decide +kernel
theorem dX0_tripEnd_1 : decode cX0_tripEnd 1 = .ok (.getfield 42, 3) := by decide +kernel
theorem dX0_tripEnd_4 : decode cX0_tripEnd 4 = .ok (.sipush 180, 3) := by decide +kernel
theorem dX0_tripEnd_7 : decode cX0_tripEnd 7 = .ok (.iadd, 1) := by decide +kernel
theorem dX0_tripEnd_8 : decode cX0_tripEnd 8 = .ok (.ireturn, 1) := by decide +kernel
theorem dX0_continuesAt_0 : decode cX0_continuesAt 0 = .ok (.aload_n 0, 1) := by decide +kernel
theorem dX0_continuesAt_1 : decode cX0_continuesAt 1 = .ok (.getfield 26, 3) := by decide +kernel
theorem dX0_continuesAt_4 : decode cX0_continuesAt 4 = .ok (.ifCond .ne 33, 3) := by decide +kernel
theorem dX0_continuesAt_7 : decode cX0_continuesAt 7 = .ok (.aload_n 0, 1) := by decide +kernel
theorem dX0_continuesAt_8 : decode cX0_continuesAt 8 = .ok (.getfield 29, 3) := by decide +kernel
theorem dX0_continuesAt_11 : decode cX0_continuesAt 11 = .ok (.ifCond .eq 26, 3) := by decide +kernel
theorem dX0_continuesAt_14 : decode cX0_continuesAt 14 = .ok (.aload_n 0, 1) := by decide +kernel
theorem dX0_continuesAt_15 : decode cX0_continuesAt 15 = .ok (.getfield 51, 3) := by decide +kernel
theorem dX0_continuesAt_18 : decode cX0_continuesAt 18 = .ok (.iload_n 1, 1) := by decide +kernel
theorem dX0_continuesAt_19 : decode cX0_continuesAt 19 = .ok (.if_icmp .ne 18, 3) := by decide +kernel
theorem dX0_continuesAt_22 : decode cX0_continuesAt 22 = .ok (.iload_n 2, 1) := by decide +kernel
theorem dX0_continuesAt_23 : decode cX0_continuesAt 23 = .ok (.aload_n 0, 1) := by decide +kernel
theorem dX0_continuesAt_24 : decode cX0_continuesAt 24 = .ok (.getfield 54, 3) := by decide +kernel
theorem dX0_continuesAt_27 : decode cX0_continuesAt 27 = .ok (.isub, 1) := by decide +kernel
theorem dX0_continuesAt_28 : decode cX0_continuesAt 28 = .ok (.bipush 15, 2) := by decide +kernel
theorem dX0_continuesAt_30 : decode cX0_continuesAt 30 = .ok (.if_icmp .gt 7, 3) := by decide +kernel
theorem dX0_continuesAt_33 : decode cX0_continuesAt 33 = .ok (.iconst 1, 1) := by decide +kernel
theorem dX0_continuesAt_34 : decode cX0_continuesAt 34 = .ok (.goto 4, 3) := by decide +kernel
theorem dX0_continuesAt_37 : decode cX0_continuesAt 37 = .ok (.iconst 0, 1) := by decide +kernel
theorem dX0_continuesAt_38 : decode cX0_continuesAt 38 = .ok (.ireturn, 1) := by decide +kernel
theorem dX0_tripCharge_0 : decode cX0_tripCharge 0 = .ok (.aload_n 0, 1) := by decide +kernel
theorem dX0_tripCharge_1 : decode cX0_tripCharge 1 = .ok (.aload_n 1, 1) := by decide +kernel
theorem dX0_tripCharge_2 : decode cX0_tripCharge 2 = .ok (.aload_n 0, 1) := by decide +kernel
theorem dX0_tripCharge_3 : decode cX0_tripCharge 3 = .ok (.getfield 45, 3) := by decide +kernel
theorem dX0_tripCharge_6 : decode cX0_tripCharge 6 = .ok (.iload_n 2, 1) := by decide +kernel
theorem dX0_tripCharge_7 : decode cX0_tripCharge 7 = .ok (.invokevirtual 95, 3) := by decide +kernel
theorem dX0_tripCharge_10 : decode cX0_tripCharge 10 = .ok (.invokevirtual 100, 3) := by decide +kernel
theorem dX0_tripCharge_13 : decode cX0_tripCharge 13 = .ok (.aload_n 0, 1) := by decide +kernel
theorem dX0_tripCharge_14 : decode cX0_tripCharge 14 = .ok (.getfield 48, 3) := by decide +kernel
theorem dX0_tripCharge_17 : decode cX0_tripCharge 17 = .ok (.isub, 1) := by decide +kernel
theorem dX0_tripCharge_18 : decode cX0_tripCharge 18 = .ok (.istore 4, 2) := by decide +kernel
theorem dX0_tripCharge_20 : decode cX0_tripCharge 20 = .ok (.iload 4, 2) := by decide +kernel
theorem dX0_tripCharge_22 : decode cX0_tripCharge 22 = .ok (.iconst 0, 1) := by decide +kernel
theorem dX0_tripCharge_23 : decode cX0_tripCharge 23 = .ok (.invokestatic 103, 3) := by decide +kernel
theorem dX0_tripCharge_26 : decode cX0_tripCharge 26 = .ok (.aload_n 0, 1) := by decide +kernel
theorem dX0_tripCharge_27 : decode cX0_tripCharge 27 = .ok (.iload_n 3, 1) := by decide +kernel
theorem dX0_tripCharge_28 : decode cX0_tripCharge 28 = .ok (.invokevirtual 106, 3) := by decide +kernel
theorem dX0_tripCharge_31 : decode cX0_tripCharge 31 = .ok (.invokestatic 109, 3) := by decide +kernel
theorem dX0_tripCharge_34 : decode cX0_tripCharge 34 = .ok (.ireturn, 1) := by decide +kernel
theorem dX0_enter_0 : decode cX0_enter 0 = .ok (.iload_n 1, 1) := by decide +kernel
theorem dX0_enter_1 : decode cX0_enter 1 = .ok (.iconst 3, 1) := by decide +kernel
theorem dX0_enter_2 : decode cX0_enter 2 = .ok (.invokestatic 72, 3) := by decide +kernel
theorem dX0_enter_5 : decode cX0_enter 5 = .ok (.istore_n 3, 1) := by decide +kernel
theorem dX0_enter_6 : decode cX0_enter 6 = .ok (.aload_n 0, 1) := by decide +kernel
theorem dX0_enter_7 : decode cX0_enter 7 = .ok (.getfield 9, 3) := by decide +kernel
theorem dX0_enter_10 : decode cX0_enter 10 = .ok (.iload_n 3, 1) := by decide +kernel
theorem dX0_enter_11 : decode cX0_enter 11 = .ok (.iaload, 1) := by decide +kernel
theorem dX0_enter_12 : decode cX0_enter 12 = .ok (.iload_n 1, 1) := by decide +kernel
theorem dX0_enter_13 : decode cX0_enter 13 = .ok (.if_icmp .eq 17, 3) := by decide +kernel
theorem dX0_enter_16 : decode cX0_enter 16 = .ok (.aload_n 0, 1) := by decide +kernel
theorem dX0_enter_17 : decode cX0_enter 17 = .ok (.getfield 9, 3) := by decide +kernel
theorem dX0_enter_20 : decode cX0_enter 20 = .ok (.iload_n 3, 1) := by decide +kernel
theorem dX0_enter_21 : decode cX0_enter 21 = .ok (.iload_n 1, 1) := by decide +kernel
theorem dX0_enter_22 : decode cX0_enter 22 = .ok (.iastore, 1) := by decide +kernel
theorem dX0_enter_23 : decode cX0_enter 23 = .ok (.aload_n 0, 1) := by decide +kernel
theorem dX0_enter_24 : decode cX0_enter 24 = .ok (.getfield 15, 3) := by decide +kernel
theorem dX0_enter_27 : decode cX0_enter 27 = .ok (.iload_n 3, 1) := by decide +kernel
theorem dX0_enter_28 : decode cX0_enter 28 = .ok (.iconst 0, 1) := by decide +kernel
theorem dX0_enter_29 : decode cX0_enter 29 = .ok (.iastore, 1) := by decide +kernel
theorem dX0_enter_30 : decode cX0_enter 30 = .ok (.aload_n 0, 1) := by decide +kernel
theorem dX0_enter_31 : decode cX0_enter 31 = .ok (.getfield 15, 3) := by decide +kernel
theorem dX0_enter_34 : decode cX0_enter 34 = .ok (.iload_n 3, 1) := by decide +kernel
theorem dX0_enter_35 : decode cX0_enter 35 = .ok (.dup2, 1) := by decide +kernel
theorem dX0_enter_36 : decode cX0_enter 36 = .ok (.iaload, 1) := by decide +kernel
theorem dX0_enter_37 : decode cX0_enter 37 = .ok (.iload_n 2, 1) := by decide +kernel
theorem dX0_enter_38 : decode cX0_enter 38 = .ok (.iadd, 1) := by decide +kernel
theorem dX0_enter_39 : decode cX0_enter 39 = .ok (.iastore, 1) := by decide +kernel
theorem dX0_enter_40 : decode cX0_enter 40 = .ok (.aload_n 0, 1) := by decide +kernel
theorem dX0_enter_41 : decode cX0_enter 41 = .ok (.dup, 1) := by decide +kernel
theorem dX0_enter_42 : decode cX0_enter 42 = .ok (.getfield 22, 3) := by decide +kernel
theorem dX0_enter_45 : decode cX0_enter 45 = .ok (.iload_n 2, 1) := by decide +kernel
theorem dX0_enter_46 : decode cX0_enter 46 = .ok (.isub, 1) := by decide +kernel
theorem dX0_enter_47 : decode cX0_enter 47 = .ok (.putfield 22, 3) := by decide +kernel
theorem dX0_enter_50 : decode cX0_enter 50 = .ok (.aload_n 0, 1) := by decide +kernel
theorem dX0_enter_51 : decode cX0_enter 51 = .ok (.new 79, 3) := by decide +kernel
theorem dX0_enter_54 : decode cX0_enter 54 = .ok (.dup, 1) := by decide +kernel
theorem dX0_enter_55 : decode cX0_enter 55 = .ok (.iload_n 1, 1) := by decide +kernel
theorem dX0_enter_56 : decode cX0_enter 56 = .ok (.iload_n 2, 1) := by decide +kernel
theorem dX0_enter_57 : decode cX0_enter 57 = .ok (.aload_n 0, 1) := by decide +kernel
theorem dX0_enter_58 : decode cX0_enter 58 = .ok (.getfield 35, 3) := by decide +kernel
theorem dX0_enter_61 : decode cX0_enter 61 = .ok (.invokespecial 112, 3) := by decide +kernel
theorem dX0_enter_64 : decode cX0_enter 64 = .ok (.putfield 35, 3) := by decide +kernel
theorem dX0_enter_67 : decode cX0_enter 67 = .ok (.return_, 1) := by decide +kernel
theorem dX0_beginTrip_0 : decode cX0_beginTrip 0 = .ok (.aload_n 0, 1) := by decide +kernel
theorem dX0_beginTrip_1 : decode cX0_beginTrip 1 = .ok (.iload_n 1, 1) := by decide +kernel
theorem dX0_beginTrip_2 : decode cX0_beginTrip 2 = .ok (.iload_n 2, 1) := by decide +kernel
theorem dX0_beginTrip_3 : decode cX0_beginTrip 3 = .ok (.invokevirtual 115, 3) := by decide +kernel
theorem dX0_beginTrip_6 : decode cX0_beginTrip 6 = .ok (.istore_n 3, 1) := by decide +kernel
theorem dX0_beginTrip_7 : decode cX0_beginTrip 7 = .ok (.iload_n 3, 1) := by decide +kernel
theorem dX0_beginTrip_8 : decode cX0_beginTrip 8 = .ok (.ifCond .ne 13, 3) := by decide +kernel
theorem dX0_beginTrip_11 : decode cX0_beginTrip 11 = .ok (.aload_n 0, 1) := by decide +kernel
theorem dX0_beginTrip_12 : decode cX0_beginTrip 12 = .ok (.iload_n 1, 1) := by decide +kernel
theorem dX0_beginTrip_13 : decode cX0_beginTrip 13 = .ok (.putfield 45, 3) := by decide +kernel
theorem dX0_beginTrip_16 : decode cX0_beginTrip 16 = .ok (.aload_n 0, 1) := by decide +kernel
theorem dX0_beginTrip_17 : decode cX0_beginTrip 17 = .ok (.iconst 0, 1) := by decide +kernel
theorem dX0_beginTrip_18 : decode cX0_beginTrip 18 = .ok (.putfield 48, 3) := by decide +kernel
theorem dX0_beginTrip_21 : decode cX0_beginTrip 21 = .ok (.aload_n 0, 1) := by decide +kernel
theorem dX0_beginTrip_22 : decode cX0_beginTrip 22 = .ok (.iconst 1, 1) := by decide +kernel
theorem dX0_beginTrip_23 : decode cX0_beginTrip 23 = .ok (.putfield 26, 3) := by decide +kernel
theorem dX0_beginTrip_26 : decode cX0_beginTrip 26 = .ok (.aload_n 0, 1) := by decide +kernel
theorem dX0_beginTrip_27 : decode cX0_beginTrip 27 = .ok (.iload_n 1, 1) := by decide +kernel
theorem dX0_beginTrip_28 : decode cX0_beginTrip 28 = .ok (.putfield 39, 3) := by decide +kernel
theorem dX0_beginTrip_31 : decode cX0_beginTrip 31 = .ok (.aload_n 0, 1) := by decide +kernel
theorem dX0_beginTrip_32 : decode cX0_beginTrip 32 = .ok (.iload_n 2, 1) := by decide +kernel
theorem dX0_beginTrip_33 : decode cX0_beginTrip 33 = .ok (.putfield 42, 3) := by decide +kernel
theorem dX0_beginTrip_36 : decode cX0_beginTrip 36 = .ok (.iload_n 3, 1) := by decide +kernel
theorem dX0_beginTrip_37 : decode cX0_beginTrip 37 = .ok (.ireturn, 1) := by decide +kernel
theorem dX0_completeTrip_0 : decode cX0_completeTrip 0 = .ok (.aload_n 0, 1) := by decide +kernel
theorem dX0_completeTrip_1 : decode cX0_completeTrip 1 = .ok (.dup, 1) := by decide +kernel
theorem dX0_completeTrip_2 : decode cX0_completeTrip 2 = .ok (.getfield 48, 3) := by decide +kernel
theorem dX0_completeTrip_5 : decode cX0_completeTrip 5 = .ok (.iload_n 3, 1) := by decide +kernel
theorem dX0_completeTrip_6 : decode cX0_completeTrip 6 = .ok (.iadd, 1) := by decide +kernel
theorem dX0_completeTrip_7 : decode cX0_completeTrip 7 = .ok (.putfield 48, 3) := by decide +kernel
theorem dX0_completeTrip_10 : decode cX0_completeTrip 10 = .ok (.aload_n 0, 1) := by decide +kernel
theorem dX0_completeTrip_11 : decode cX0_completeTrip 11 = .ok (.iconst 0, 1) := by decide +kernel
theorem dX0_completeTrip_12 : decode cX0_completeTrip 12 = .ok (.putfield 26, 3) := by decide +kernel
theorem dX0_completeTrip_15 : decode cX0_completeTrip 15 = .ok (.aload_n 0, 1) := by decide +kernel
theorem dX0_completeTrip_16 : decode cX0_completeTrip 16 = .ok (.iconst 1, 1) := by decide +kernel
theorem dX0_completeTrip_17 : decode cX0_completeTrip 17 = .ok (.putfield 29, 3) := by decide +kernel
theorem dX0_completeTrip_20 : decode cX0_completeTrip 20 = .ok (.aload_n 0, 1) := by decide +kernel
theorem dX0_completeTrip_21 : decode cX0_completeTrip 21 = .ok (.iload_n 1, 1) := by decide +kernel
theorem dX0_completeTrip_22 : decode cX0_completeTrip 22 = .ok (.putfield 51, 3) := by decide +kernel
theorem dX0_completeTrip_25 : decode cX0_completeTrip 25 = .ok (.aload_n 0, 1) := by decide +kernel
theorem dX0_completeTrip_26 : decode cX0_completeTrip 26 = .ok (.iload_n 2, 1) := by decide +kernel
theorem dX0_completeTrip_27 : decode cX0_completeTrip 27 = .ok (.putfield 54, 3) := by decide +kernel
theorem dX0_completeTrip_30 : decode cX0_completeTrip 30 = .ok (.return_, 1) := by decide +kernel
theorem dX0_breakTrip_0 : decode cX0_breakTrip 0 = .ok (.aload_n 0, 1) := by decide +kernel
theorem dX0_breakTrip_1 : decode cX0_breakTrip 1 = .ok (.iconst 0, 1) := by decide +kernel
theorem dX0_breakTrip_2 : decode cX0_breakTrip 2 = .ok (.putfield 26, 3) := by decide +kernel
theorem dX0_breakTrip_5 : decode cX0_breakTrip 5 = .ok (.aload_n 0, 1) := by decide +kernel
theorem dX0_breakTrip_6 : decode cX0_breakTrip 6 = .ok (.iconst 0, 1) := by decide +kernel
theorem dX0_breakTrip_7 : decode cX0_breakTrip 7 = .ok (.putfield 29, 3) := by decide +kernel
theorem dX0_breakTrip_10 : decode cX0_breakTrip 10 = .ok (.aload_n 0, 1) := by decide +kernel
theorem dX0_breakTrip_11 : decode cX0_breakTrip 11 = .ok (.iconst 1, 1) := by decide +kernel
theorem dX0_breakTrip_12 : decode cX0_breakTrip 12 = .ok (.putfield 32, 3) := by decide +kernel
theorem dX0_breakTrip_15 : decode cX0_breakTrip 15 = .ok (.aload_n 0, 1) := by decide +kernel
theorem dX0_breakTrip_16 : decode cX0_breakTrip 16 = .ok (.aload_n 0, 1) := by decide +kernel
theorem dX0_breakTrip_17 : decode cX0_breakTrip 17 = .ok (.getfield 39, 3) := by decide +kernel
theorem dX0_breakTrip_20 : decode cX0_breakTrip 20 = .ok (.putfield 57, 3) := by decide +kernel
theorem dX0_breakTrip_23 : decode cX0_breakTrip 23 = .ok (.aload_n 0, 1) := by decide +kernel
theorem dX0_breakTrip_24 : decode cX0_breakTrip 24 = .ok (.iload_n 1, 1) := by decide +kernel
theorem dX0_breakTrip_25 : decode cX0_breakTrip 25 = .ok (.putfield 60, 3) := by decide +kernel
theorem dX0_breakTrip_28 : decode cX0_breakTrip 28 = .ok (.aload_n 0, 1) := by decide +kernel
theorem dX0_breakTrip_29 : decode cX0_breakTrip 29 = .ok (.iload_n 2, 1) := by decide +kernel
theorem dX0_breakTrip_30 : decode cX0_breakTrip 30 = .ok (.putfield 63, 3) := by decide +kernel
theorem dX0_breakTrip_33 : decode cX0_breakTrip 33 = .ok (.return_, 1) := by decide +kernel
