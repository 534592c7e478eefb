theorem dX3_init_0 : decode cX3_init 0 = .ok (.aload_n 0, 1) := by decide +kernel
theorem dX3_init_1 : decode cX3_init 1 = .ok (.invokespecial 3, 3) := by decide +kernel
theorem dX3_init_4 : decode cX3_init 4 = .ok (.aload_n 0, 1) := by decide +kernel
theorem dX3_init_5 : decode cX3_init 5 = .ok (.new 9, 3) := by decide +kernel
theorem dX3_init_8 : decode cX3_init 8 = .ok (.dup, 1) := by decide +kernel
theorem dX3_init_9 : decode cX3_init 9 = .ok (.invokespecial 11, 3) := by decide +kernel
theorem dX3_init_12 : decode cX3_init 12 = .ok (.putfield 12, 3) := by decide +kernel
theorem dX3_init_15 : decode cX3_init 15 = .ok (.aload_n 0, 1) := by decide +kernel
theorem dX3_init_16 : decode cX3_init 16 = .ok (.bipush 8, 2) := by decide +kernel
theorem dX3_init_18 : decode cX3_init 18 = .ok (.anewarray 18, 3) := by decide +kernel
theorem dX3_init_21 : decode cX3_init 21 = .ok (.putfield 20, 3) := by decide +kernel
theorem dX3_init_24 : decode cX3_init 24 = .ok (.iconst 0, 1) := by decide +kernel
theorem dX3_init_25 : decode cX3_init 25 = .ok (.istore_n 1, 1) := by decide +kernel
theorem dX3_init_26 : decode cX3_init 26 = .ok (.iload_n 1, 1) := by decide +kernel
theorem dX3_init_27 : decode cX3_init 27 = .ok (.bipush 8, 2) := by decide +kernel
theorem dX3_init_29 : decode cX3_init 29 = .ok (.if_icmp .ge 22, 3) := by decide +kernel
theorem dX3_init_32 : decode cX3_init 32 = .ok (.aload_n 0, 1) := by decide +kernel
theorem dX3_init_33 : decode cX3_init 33 = .ok (.getfield 20, 3) := by decide +kernel
theorem dX3_init_36 : decode cX3_init 36 = .ok (.iload_n 1, 1) := by decide +kernel
theorem dX3_init_37 : decode cX3_init 37 = .ok (.new 18, 3) := by decide +kernel
theorem dX3_init_40 : decode cX3_init 40 = .ok (.dup, 1) := by decide +kernel
theorem dX3_init_41 : decode cX3_init 41 = .ok (.invokespecial 24, 3) := by decide +kernel
theorem dX3_init_44 : decode cX3_init 44 = .ok (.aastore, 1) := by decide +kernel
theorem dX3_init_45 : decode cX3_init 45 = .ok (.iinc 1 1, 3) := by decide +kernel
theorem dX3_init_48 : decode cX3_init 48 = .ok (.goto (-22), 3) := by decide +kernel
theorem dX3_init_51 : decode cX3_init 51 = .ok (.return_, 1) := by decide +kernel
theorem dX3_copyFrom_0 : decode cX3_copyFrom 0 = .ok (.aload_n 0, 1) := by decide +kernel
theorem dX3_copyFrom_1 : decode cX3_copyFrom 1 = .ok (.getfield 12, 3) := by decide +kernel
theorem dX3_copyFrom_4 : decode cX3_copyFrom 4 = .ok (.aload_n 1, 1) := by decide +kernel
theorem dX3_copyFrom_5 : decode cX3_copyFrom 5 = .ok (.getfield 12, 3) := by decide +kernel
theorem dX3_copyFrom_8 : decode cX3_copyFrom 8 = .ok (.invokevirtual 25, 3) := by decide +kernel
theorem dX3_copyFrom_11 : decode cX3_copyFrom 11 = .ok (.aload_n 0, 1) := by decide +kernel
theorem dX3_copyFrom_12 : decode cX3_copyFrom 12 = .ok (.aload_n 1, 1) := by decide +kernel
theorem dX3_copyFrom_13 : decode cX3_copyFrom 13 = .ok (.getfield 29, 3) := by decide +kernel
theorem dX3_copyFrom_16 : decode cX3_copyFrom 16 = .ok (.putfield 29, 3) := by decide +kernel
theorem dX3_copyFrom_19 : decode cX3_copyFrom 19 = .ok (.iconst 0, 1) := by decide +kernel
theorem dX3_copyFrom_20 : decode cX3_copyFrom 20 = .ok (.istore_n 2, 1) := by decide +kernel
theorem dX3_copyFrom_21 : decode cX3_copyFrom 21 = .ok (.iload_n 2, 1) := by decide +kernel
theorem dX3_copyFrom_22 : decode cX3_copyFrom 22 = .ok (.aload_n 0, 1) := by decide +kernel
theorem dX3_copyFrom_23 : decode cX3_copyFrom 23 = .ok (.getfield 29, 3) := by decide +kernel
theorem dX3_copyFrom_26 : decode cX3_copyFrom 26 = .ok (.if_icmp .ge 30, 3) := by decide +kernel
theorem dX3_copyFrom_29 : decode cX3_copyFrom 29 = .ok (.iload_n 2, 1) := by decide +kernel
theorem dX3_copyFrom_30 : decode cX3_copyFrom 30 = .ok (.bipush 8, 2) := by decide +kernel
theorem dX3_copyFrom_32 : decode cX3_copyFrom 32 = .ok (.if_icmp .ge 24, 3) := by decide +kernel
theorem dX3_copyFrom_35 : decode cX3_copyFrom 35 = .ok (.aload_n 0, 1) := by decide +kernel
theorem dX3_copyFrom_36 : decode cX3_copyFrom 36 = .ok (.getfield 20, 3) := by decide +kernel
theorem dX3_copyFrom_39 : decode cX3_copyFrom 39 = .ok (.iload_n 2, 1) := by decide +kernel
theorem dX3_copyFrom_40 : decode cX3_copyFrom 40 = .ok (.aaload, 1) := by decide +kernel
theorem dX3_copyFrom_41 : decode cX3_copyFrom 41 = .ok (.aload_n 1, 1) := by decide +kernel
theorem dX3_copyFrom_42 : decode cX3_copyFrom 42 = .ok (.getfield 20, 3) := by decide +kernel
theorem dX3_copyFrom_45 : decode cX3_copyFrom 45 = .ok (.iload_n 2, 1) := by decide +kernel
theorem dX3_copyFrom_46 : decode cX3_copyFrom 46 = .ok (.aaload, 1) := by decide +kernel
theorem dX3_copyFrom_47 : decode cX3_copyFrom 47 = .ok (.invokevirtual 33, 3) := by decide +kernel
theorem dX3_copyFrom_50 : decode cX3_copyFrom 50 = .ok (.iinc 2 1, 3) := by decide +kernel
theorem dX3_copyFrom_53 : decode cX3_copyFrom 53 = .ok (.goto (-32), 3) := by decide +kernel
theorem dX3_copyFrom_56 : decode cX3_copyFrom 56 = .ok (.aload_n 0, 1) := by decide +kernel
theorem dX3_copyFrom_57 : decode cX3_copyFrom 57 = .ok (.aload_n 1, 1) := by decide +kernel
theorem dX3_copyFrom_58 : decode cX3_copyFrom 58 = .ok (.getfield 36, 3) := by decide +kernel
theorem dX3_copyFrom_61 : decode cX3_copyFrom 61 = .ok (.putfield 36, 3) := by decide +kernel
theorem dX3_copyFrom_64 : decode cX3_copyFrom 64 = .ok (.aload_n 0, 1) := by decide +kernel
theorem dX3_copyFrom_65 : decode cX3_copyFrom 65 = .ok (.aload_n 1, 1) := by decide +kernel
theorem dX3_copyFrom_66 : decode cX3_copyFrom 66 = .ok (.getfield 39, 3) := by decide +kernel
theorem dX3_copyFrom_69 : decode cX3_copyFrom 69 = .ok (.putfield 39, 3) := by decide +kernel
theorem dX3_copyFrom_72 : decode cX3_copyFrom 72 = .ok (.aload_n 0, 1) := by decide +kernel
theorem dX3_copyFrom_73 : decode cX3_copyFrom 73 = .ok (.aload_n 1, 1) := by decide +kernel
theorem dX3_copyFrom_74 : decode cX3_copyFrom 74 = .ok (.getfield 42, 3) := by decide +kernel
theorem dX3_copyFrom_77 : decode cX3_copyFrom 77 = .ok (.putfield 42, 3) := by decide +kernel
theorem dX3_copyFrom_80 : decode cX3_copyFrom 80 = .ok (.aload_n 0, 1) := by decide +kernel
theorem dX3_copyFrom_81 : decode cX3_copyFrom 81 = .ok (.aload_n 1, 1) := by decide +kernel
theorem dX3_copyFrom_82 : decode cX3_copyFrom 82 = .ok (.getfield 45, 3) := by decide +kernel
theorem dX3_copyFrom_85 : decode cX3_copyFrom 85 = .ok (.putfield 45, 3) := by decide +kernel
theorem dX3_copyFrom_88 : decode cX3_copyFrom 88 = .ok (.aload_n 0, 1) := by decide +kernel
theorem dX3_copyFrom_89 : decode cX3_copyFrom 89 = .ok (.aload_n 1, 1) := by decide +kernel
theorem dX3_copyFrom_90 : decode cX3_copyFrom 90 = .ok (.getfield 48, 3) := by decide +kernel
theorem dX3_copyFrom_93 : decode cX3_copyFrom 93 = .ok (.putfield 48, 3) := by decide +kernel
theorem dX3_copyFrom_96 : decode cX3_copyFrom 96 = .ok (.aload_n 0, 1) := by decide +kernel
theorem dX3_copyFrom_97 : decode cX3_copyFrom 97 = .ok (.aload_n 1, 1) := by decide +kernel
theorem dX3_copyFrom_98 : decode cX3_copyFrom 98 = .ok (.getfield 51, 3) := by decide +kernel
theorem dX3_copyFrom_101 : decode cX3_copyFrom 101 = .ok (.putfield 51, 3) := by decide +kernel
theorem dX3_copyFrom_104 : decode cX3_copyFrom 104 = .ok (.return_, 1) := by decide +kernel
theorem dX3_hasCard_0 : decode cX3_hasCard 0 = .ok (.iload_n 1, 1) := by decide +kernel
theorem dX3_hasCard_1 : decode cX3_hasCard 1 = .ok (.ifCond .lt 21, 3) := by decide +kernel
theorem dX3_hasCard_4 : decode cX3_hasCard 4 = .ok (.iload_n 1, 1) := by decide +kernel
theorem dX3_hasCard_5 : decode cX3_hasCard 5 = .ok (.aload_n 0, 1) := by decide +kernel
theorem dX3_hasCard_6 : decode cX3_hasCard 6 = .ok (.getfield 29, 3) := by decide +kernel
theorem dX3_hasCard_9 : decode cX3_hasCard 9 = .ok (.if_icmp .ge 13, 3) := by decide +kernel
theorem dX3_hasCard_12 : decode cX3_hasCard 12 = .ok (.iload_n 1, 1) := by decide +kernel
theorem dX3_hasCard_13 : decode cX3_hasCard 13 = .ok (.bipush 8, 2) := by decide +kernel
theorem dX3_hasCard_15 : decode cX3_hasCard 15 = .ok (.if_icmp .ge 7, 3) := by decide +kernel
theorem dX3_hasCard_18 : decode cX3_hasCard 18 = .ok (.iconst 1, 1) := by decide +kernel
theorem dX3_hasCard_19 : decode cX3_hasCard 19 = .ok (.goto 4, 3) := by decide +kernel
theorem dX3_hasCard_22 : decode cX3_hasCard 22 = .ok (.iconst 0, 1) := by decide +kernel
theorem dX3_hasCard_23 : decode cX3_hasCard 23 = .ok (.ireturn, 1) := by decide +kernel
theorem dX3_presentDay_0 : decode cX3_presentDay 0 = .ok (.aload_n 0, 1) := by decide +kernel
theorem dX3_presentDay_1 : decode cX3_presentDay 1 = .ok (.getfield 36, 3) := by decide +kernel
theorem dX3_presentDay_4 : decode cX3_presentDay 4 = .ok (.sipush 1440, 3) := by decide +kernel
theorem dX3_presentDay_7 : decode cX3_presentDay 7 = .ok (.idiv, 1) := by decide +kernel
theorem dX3_presentDay_8 : decode cX3_presentDay 8 = .ok (.ireturn, 1) := by decide +kernel
theorem dX3_isInTimeToRepair_0 : decode cX3_isInTimeToRepair 0 = .ok (.aload_n 0, 1) := by decide +kernel
theorem dX3_isInTimeToRepair_1 : decode cX3_isInTimeToRepair 1 = .ok (.invokevirtual 54, 3) := by decide +kernel
theorem dX3_isInTimeToRepair_4 : decode cX3_isInTimeToRepair 4 = .ok (.aload_n 0, 1) := by decide +kernel
theorem dX3_isInTimeToRepair_5 : decode cX3_isInTimeToRepair 5 = .ok (.getfield 20, 3) := by decide +kernel
theorem dX3_isInTimeToRepair_8 : decode cX3_isInTimeToRepair 8 = .ok (.iload_n 1, 1) := by decide +kernel
theorem dX3_isInTimeToRepair_9 : decode cX3_isInTimeToRepair 9 = .ok (.aaload, 1) := by decide +kernel
theorem dX3_isInTimeToRepair_10 : decode cX3_isInTimeToRepair 10 = .ok (.getfield 58, 3) := by decide +kernel
theorem dX3_isInTimeToRepair_13 : decode cX3_isInTimeToRepair 13 = .ok (.isub, 1) := by decide +kernel
theorem dX3_isInTimeToRepair_14 : decode cX3_isInTimeToRepair 14 = .ok (.iconst 2, 1) := by decide +kernel
theorem dX3_isInTimeToRepair_15 : decode cX3_isInTimeToRepair 15 = .ok (.if_icmp .gt 7, 3) := by decide +kernel
theorem dX3_isInTimeToRepair_18 : decode cX3_isInTimeToRepair 18 = .ok (.iconst 1, 1) := by decide +kernel
theorem dX3_isInTimeToRepair_19 : decode cX3_isInTimeToRepair 19 = .ok (.goto 4, 3) := by decide +kernel
theorem dX3_isInTimeToRepair_22 : decode cX3_isInTimeToRepair 22 = .ok (.iconst 0, 1) := by decide +kernel
theorem dX3_isInTimeToRepair_23 : decode cX3_isInTimeToRepair 23 = .ok (.ireturn, 1) := by decide +kernel
theorem dX3_problemOf_0 : decode cX3_problemOf 0 = .ok (.iload_n 1, 1) := by decide +kernel
theorem dX3_problemOf_1 : decode cX3_problemOf 1 = .ok (.tableswitch 98 0 6 #[43, 58, 65, 72, 79, 86, 92], 43) := by decide +kernel
theorem dX3_problemOf_44 : decode cX3_problemOf 44 = .ok (.aload_n 0, 1) := by decide +kernel
theorem dX3_problemOf_45 : decode cX3_problemOf 45 = .ok (.getfield 29, 3) := by decide +kernel
theorem dX3_problemOf_48 : decode cX3_problemOf 48 = .ok (.bipush 8, 2) := by decide +kernel
theorem dX3_problemOf_50 : decode cX3_problemOf 50 = .ok (.if_icmp .lt 7, 3) := by decide +kernel
theorem dX3_problemOf_53 : decode cX3_problemOf 53 = .ok (.iconst 3, 1) := by decide +kernel
theorem dX3_problemOf_54 : decode cX3_problemOf 54 = .ok (.goto 4, 3) := by decide +kernel
theorem dX3_problemOf_57 : decode cX3_problemOf 57 = .ok (.iconst 0, 1) := by decide +kernel
theorem dX3_problemOf_58 : decode cX3_problemOf 58 = .ok (.ireturn, 1) := by decide +kernel
theorem dX3_problemOf_59 : decode cX3_problemOf 59 = .ok (.aload_n 0, 1) := by decide +kernel
theorem dX3_problemOf_60 : decode cX3_problemOf 60 = .ok (.iload_n 2, 1) := by decide +kernel
theorem dX3_problemOf_61 : decode cX3_problemOf 61 = .ok (.iload_n 3, 1) := by decide +kernel
theorem dX3_problemOf_62 : decode cX3_problemOf 62 = .ok (.invokevirtual 61, 3) := by decide +kernel
theorem dX3_problemOf_65 : decode cX3_problemOf 65 = .ok (.ireturn, 1) := by decide +kernel
theorem dX3_problemOf_66 : decode cX3_problemOf 66 = .ok (.aload_n 0, 1) := by decide +kernel
theorem dX3_problemOf_67 : decode cX3_problemOf 67 = .ok (.iload_n 2, 1) := by decide +kernel
theorem dX3_problemOf_68 : decode cX3_problemOf 68 = .ok (.iload_n 3, 1) := by decide +kernel
theorem dX3_problemOf_69 : decode cX3_problemOf 69 = .ok (.invokevirtual 65, 3) := by decide +kernel
theorem dX3_problemOf_72 : decode cX3_problemOf 72 = .ok (.ireturn, 1) := by decide +kernel
theorem dX3_problemOf_73 : decode cX3_problemOf 73 = .ok (.aload_n 0, 1) := by decide +kernel
theorem dX3_problemOf_74 : decode cX3_problemOf 74 = .ok (.iload_n 2, 1) := by decide +kernel
theorem dX3_problemOf_75 : decode cX3_problemOf 75 = .ok (.iload_n 3, 1) := by decide +kernel
theorem dX3_problemOf_76 : decode cX3_problemOf 76 = .ok (.invokevirtual 68, 3) := by decide +kernel
theorem dX3_problemOf_79 : decode cX3_problemOf 79 = .ok (.ireturn, 1) := by decide +kernel
theorem dX3_problemOf_80 : decode cX3_problemOf 80 = .ok (.aload_n 0, 1) := by decide +kernel
theorem dX3_problemOf_81 : decode cX3_problemOf 81 = .ok (.iload_n 2, 1) := by decide +kernel
theorem dX3_problemOf_82 : decode cX3_problemOf 82 = .ok (.iload_n 3, 1) := by decide +kernel
theorem dX3_problemOf_83 : decode cX3_problemOf 83 = .ok (.invokevirtual 71, 3) := by decide +kernel
theorem dX3_problemOf_86 : decode cX3_problemOf 86 = .ok (.ireturn, 1) := by decide +kernel
theorem dX3_problemOf_87 : decode cX3_problemOf 87 = .ok (.iload_n 2, 1) := by decide +kernel
theorem dX3_problemOf_88 : decode cX3_problemOf 88 = .ok (.iload_n 3, 1) := by decide +kernel
theorem dX3_problemOf_89 : decode cX3_problemOf 89 = .ok (.invokestatic 74, 3) := by decide +kernel
theorem dX3_problemOf_92 : decode cX3_problemOf 92 = .ok (.ireturn, 1) := by decide +kernel
theorem dX3_problemOf_93 : decode cX3_problemOf 93 = .ok (.iload_n 2, 1) := by decide +kernel
theorem dX3_problemOf_94 : decode cX3_problemOf 94 = .ok (.iload_n 3, 1) := by decide +kernel
theorem dX3_problemOf_95 : decode cX3_problemOf 95 = .ok (.invokestatic 77, 3) := by decide +kernel
theorem dX3_problemOf_98 : decode cX3_problemOf 98 = .ok (.ireturn, 1) := by decide +kernel
theorem dX3_problemOf_99 : decode cX3_problemOf 99 = .ok (.iload_n 2, 1) := by decide +kernel
theorem dX3_problemOf_100 : decode cX3_problemOf 100 = .ok (.iconst 1, 1) := by decide +kernel
theorem dX3_problemOf_101 : decode cX3_problemOf 101 = .ok (.if_icmp .lt 10, 3) := by decide +kernel
theorem dX3_problemOf_104 : decode cX3_problemOf 104 = .ok (.iload_n 2, 1) := by decide +kernel
theorem dX3_problemOf_105 : decode cX3_problemOf 105 = .ok (.sipush 2000, 3) := by decide +kernel
theorem dX3_problemOf_108 : decode cX3_problemOf 108 = .ok (.if_icmp .le 7, 3) := by decide +kernel
theorem dX3_problemOf_111 : decode cX3_problemOf 111 = .ok (.iconst 2, 1) := by decide +kernel
theorem dX3_problemOf_112 : decode cX3_problemOf 112 = .ok (.goto 4, 3) := by decide +kernel
theorem dX3_problemOf_115 : decode cX3_problemOf 115 = .ok (.iconst 0, 1) := by decide +kernel
theorem dX3_problemOf_116 : decode cX3_problemOf 116 = .ok (.ireturn, 1) := by decide +kernel
theorem dX3_problemOfLoad_0 : decode cX3_problemOfLoad 0 = .ok (.aload_n 0, 1) := by decide +kernel
theorem dX3_problemOfLoad_1 : decode cX3_problemOfLoad 1 = .ok (.iload_n 1, 1) := by decide +kernel
theorem dX3_problemOfLoad_2 : decode cX3_problemOfLoad 2 = .ok (.invokevirtual 80, 3) := by decide +kernel
theorem dX3_problemOfLoad_5 : decode cX3_problemOfLoad 5 = .ok (.ifCond .ne 5, 3) := by decide +kernel
theorem dX3_problemOfLoad_8 : decode cX3_problemOfLoad 8 = .ok (.iconst 1, 1) := by decide +kernel
theorem dX3_problemOfLoad_9 : decode cX3_problemOfLoad 9 = .ok (.ireturn, 1) := by decide +kernel
theorem dX3_problemOfLoad_10 : decode cX3_problemOfLoad 10 = .ok (.iload_n 2, 1) := by decide +kernel
theorem dX3_problemOfLoad_11 : decode cX3_problemOfLoad 11 = .ok (.iconst 1, 1) := by decide +kernel
theorem dX3_problemOfLoad_12 : decode cX3_problemOfLoad 12 = .ok (.if_icmp .lt 10, 3) := by decide +kernel
theorem dX3_problemOfLoad_15 : decode cX3_problemOfLoad 15 = .ok (.iload_n 2, 1) := by decide +kernel
theorem dX3_problemOfLoad_16 : decode cX3_problemOfLoad 16 = .ok (.sipush 9999, 3) := by decide +kernel
theorem dX3_problemOfLoad_19 : decode cX3_problemOfLoad 19 = .ok (.if_icmp .le 5, 3) := by decide +kernel
theorem dX3_problemOfLoad_22 : decode cX3_problemOfLoad 22 = .ok (.iconst 2, 1) := by decide +kernel
theorem dX3_problemOfLoad_23 : decode cX3_problemOfLoad 23 = .ok (.ireturn, 1) := by decide +kernel
theorem dX3_problemOfLoad_24 : decode cX3_problemOfLoad 24 = .ok (.aload_n 0, 1) := by decide +kernel
theorem dX3_problemOfLoad_25 : decode cX3_problemOfLoad 25 = .ok (.getfield 20, 3) := by decide +kernel
theorem dX3_problemOfLoad_28 : decode cX3_problemOfLoad 28 = .ok (.iload_n 1, 1) := by decide +kernel
theorem dX3_problemOfLoad_29 : decode cX3_problemOfLoad 29 = .ok (.aaload, 1) := by decide +kernel
theorem dX3_problemOfLoad_30 : decode cX3_problemOfLoad 30 = .ok (.getfield 84, 3) := by decide +kernel
theorem dX3_problemOfLoad_33 : decode cX3_problemOfLoad 33 = .ok (.iload_n 2, 1) := by decide +kernel
theorem dX3_problemOfLoad_34 : decode cX3_problemOfLoad 34 = .ok (.iadd, 1) := by decide +kernel
theorem dX3_problemOfLoad_35 : decode cX3_problemOfLoad 35 = .ok (.sipush 20000, 3) := by decide +kernel
theorem dX3_problemOfLoad_38 : decode cX3_problemOfLoad 38 = .ok (.if_icmp .le 7, 3) := by decide +kernel
theorem dX3_problemOfLoad_41 : decode cX3_problemOfLoad 41 = .ok (.iconst 5, 1) := by decide +kernel
theorem dX3_problemOfLoad_42 : decode cX3_problemOfLoad 42 = .ok (.goto 4, 3) := by decide +kernel
theorem dX3_problemOfLoad_45 : decode cX3_problemOfLoad 45 = .ok (.iconst 0, 1) := by decide +kernel
theorem dX3_problemOfLoad_46 : decode cX3_problemOfLoad 46 = .ok (.ireturn, 1) := by decide +kernel
theorem dX3_problemOfTapIn_0 : decode cX3_problemOfTapIn 0 = .ok (.aload_n 0, 1) := by decide +kernel
theorem dX3_problemOfTapIn_1 : decode cX3_problemOfTapIn 1 = .ok (.iload_n 1, 1) := by decide +kernel
theorem dX3_problemOfTapIn_2 : decode cX3_problemOfTapIn 2 = .ok (.invokevirtual 80, 3) := by decide +kernel
theorem dX3_problemOfTapIn_5 : decode cX3_problemOfTapIn 5 = .ok (.ifCond .eq 10, 3) := by decide +kernel
theorem dX3_problemOfTapIn_8 : decode cX3_problemOfTapIn 8 = .ok (.iload_n 2, 1) := by decide +kernel
theorem dX3_problemOfTapIn_9 : decode cX3_problemOfTapIn 9 = .ok (.invokestatic 87, 3) := by decide +kernel
theorem dX3_problemOfTapIn_12 : decode cX3_problemOfTapIn 12 = .ok (.ifCond .ne 5, 3) := by decide +kernel
theorem dX3_problemOfTapIn_15 : decode cX3_problemOfTapIn 15 = .ok (.iconst 1, 1) := by decide +kernel
theorem dX3_problemOfTapIn_16 : decode cX3_problemOfTapIn 16 = .ok (.ireturn, 1) := by decide +kernel
theorem dX3_problemOfTapIn_17 : decode cX3_problemOfTapIn 17 = .ok (.aload_n 0, 1) := by decide +kernel
theorem dX3_problemOfTapIn_18 : decode cX3_problemOfTapIn 18 = .ok (.getfield 20, 3) := by decide +kernel
theorem dX3_problemOfTapIn_21 : decode cX3_problemOfTapIn 21 = .ok (.iload_n 1, 1) := by decide +kernel
theorem dX3_problemOfTapIn_22 : decode cX3_problemOfTapIn 22 = .ok (.aaload, 1) := by decide +kernel
theorem dX3_problemOfTapIn_23 : decode cX3_problemOfTapIn 23 = .ok (.getfield 84, 3) := by decide +kernel
theorem dX3_problemOfTapIn_26 : decode cX3_problemOfTapIn 26 = .ok (.sipush (-500), 3) := by decide +kernel
theorem dX3_problemOfTapIn_29 : decode cX3_problemOfTapIn 29 = .ok (.if_icmp .ge 7, 3) := by decide +kernel
theorem dX3_problemOfTapIn_32 : decode cX3_problemOfTapIn 32 = .ok (.iconst 3, 1) := by decide +kernel
theorem dX3_problemOfTapIn_33 : decode cX3_problemOfTapIn 33 = .ok (.goto 4, 3) := by decide +kernel
theorem dX3_problemOfTapIn_36 : decode cX3_problemOfTapIn 36 = .ok (.iconst 0, 1) := by decide +kernel
theorem dX3_problemOfTapIn_37 : decode cX3_problemOfTapIn 37 = .ok (.ireturn, 1) := by decide +kernel
theorem dX3_problemOfTapOut_0 : decode cX3_problemOfTapOut 0 = .ok (.aload_n 0, 1) := by decide +kernel
theorem dX3_problemOfTapOut_1 : decode cX3_problemOfTapOut 1 = .ok (.iload_n 1, 1) := by decide +kernel
theorem dX3_problemOfTapOut_2 : decode cX3_problemOfTapOut 2 = .ok (.invokevirtual 80, 3) := by decide +kernel
theorem dX3_problemOfTapOut_5 : decode cX3_problemOfTapOut 5 = .ok (.ifCond .eq 10, 3) := by decide +kernel
theorem dX3_problemOfTapOut_8 : decode cX3_problemOfTapOut 8 = .ok (.iload_n 2, 1) := by decide +kernel
theorem dX3_problemOfTapOut_9 : decode cX3_problemOfTapOut 9 = .ok (.invokestatic 87, 3) := by decide +kernel
theorem dX3_problemOfTapOut_12 : decode cX3_problemOfTapOut 12 = .ok (.ifCond .ne 5, 3) := by decide +kernel
theorem dX3_problemOfTapOut_15 : decode cX3_problemOfTapOut 15 = .ok (.iconst 1, 1) := by decide +kernel
theorem dX3_problemOfTapOut_16 : decode cX3_problemOfTapOut 16 = .ok (.ireturn, 1) := by decide +kernel
theorem dX3_problemOfTapOut_17 : decode cX3_problemOfTapOut 17 = .ok (.aload_n 0, 1) := by decide +kernel
theorem dX3_problemOfTapOut_18 : decode cX3_problemOfTapOut 18 = .ok (.getfield 20, 3) := by decide +kernel
theorem dX3_problemOfTapOut_21 : decode cX3_problemOfTapOut 21 = .ok (.iload_n 1, 1) := by decide +kernel
theorem dX3_problemOfTapOut_22 : decode cX3_problemOfTapOut 22 = .ok (.aaload, 1) := by decide +kernel
theorem dX3_problemOfTapOut_23 : decode cX3_problemOfTapOut 23 = .ok (.getfield 90, 3) := by decide +kernel
theorem dX3_problemOfTapOut_26 : decode cX3_problemOfTapOut 26 = .ok (.ifCond .eq 7, 3) := by decide +kernel
theorem dX3_problemOfTapOut_29 : decode cX3_problemOfTapOut 29 = .ok (.iconst 0, 1) := by decide +kernel
theorem dX3_problemOfTapOut_30 : decode cX3_problemOfTapOut 30 = .ok (.goto 4, 3) := by decide +kernel
theorem dX3_problemOfTapOut_33 : decode cX3_problemOfTapOut 33 = .ok (.iconst 3, 1) := by decide +kernel
theorem dX3_problemOfTapOut_34 : decode cX3_problemOfTapOut 34 = .ok (.ireturn, 1) := by decide +kernel
theorem dX3_problemOfRepair_0 : decode cX3_problemOfRepair 0 = .ok (.aload_n 0, 1) := by decide +kernel
theorem dX3_problemOfRepair_1 : decode cX3_problemOfRepair 1 = .ok (.iload_n 1, 1) := by decide +kernel
theorem dX3_problemOfRepair_2 : decode cX3_problemOfRepair 2 = .ok (.invokevirtual 80, 3) := by decide +kernel
theorem dX3_problemOfRepair_5 : decode cX3_problemOfRepair 5 = .ok (.ifCond .eq 10, 3) := by decide +kernel
theorem dX3_problemOfRepair_8 : decode cX3_problemOfRepair 8 = .ok (.iload_n 2, 1) := by decide +kernel
theorem dX3_problemOfRepair_9 : decode cX3_problemOfRepair 9 = .ok (.invokestatic 87, 3) := by decide +kernel
theorem dX3_problemOfRepair_12 : decode cX3_problemOfRepair 12 = .ok (.ifCond .ne 5, 3) := by decide +kernel
theorem dX3_problemOfRepair_15 : decode cX3_problemOfRepair 15 = .ok (.iconst 1, 1) := by decide +kernel
theorem dX3_problemOfRepair_16 : decode cX3_problemOfRepair 16 = .ok (.ireturn, 1) := by decide +kernel
theorem dX3_problemOfRepair_17 : decode cX3_problemOfRepair 17 = .ok (.aload_n 0, 1) := by decide +kernel
theorem dX3_problemOfRepair_18 : decode cX3_problemOfRepair 18 = .ok (.getfield 20, 3) := by decide +kernel
theorem dX3_problemOfRepair_21 : decode cX3_problemOfRepair 21 = .ok (.iload_n 1, 1) := by decide +kernel
theorem dX3_problemOfRepair_22 : decode cX3_problemOfRepair 22 = .ok (.aaload, 1) := by decide +kernel
theorem dX3_problemOfRepair_23 : decode cX3_problemOfRepair 23 = .ok (.getfield 94, 3) := by decide +kernel
theorem dX3_problemOfRepair_26 : decode cX3_problemOfRepair 26 = .ok (.ifCond .ne 5, 3) := by decide +kernel
theorem dX3_problemOfRepair_29 : decode cX3_problemOfRepair 29 = .ok (.iconst 4, 1) := by decide +kernel
theorem dX3_problemOfRepair_30 : decode cX3_problemOfRepair 30 = .ok (.ireturn, 1) := by decide +kernel
theorem dX3_problemOfRepair_31 : decode cX3_problemOfRepair 31 = .ok (.aload_n 0, 1) := by decide +kernel
theorem dX3_problemOfRepair_32 : decode cX3_problemOfRepair 32 = .ok (.iload_n 1, 1) := by decide +kernel
theorem dX3_problemOfRepair_33 : decode cX3_problemOfRepair 33 = .ok (.invokevirtual 97, 3) := by decide +kernel
theorem dX3_problemOfRepair_36 : decode cX3_problemOfRepair 36 = .ok (.ifCond .eq 7, 3) := by decide +kernel
theorem dX3_problemOfRepair_39 : decode cX3_problemOfRepair 39 = .ok (.iconst 0, 1) := by decide +kernel
theorem dX3_problemOfRepair_40 : decode cX3_problemOfRepair 40 = .ok (.goto 4, 3) := by decide +kernel
theorem dX3_problemOfRepair_43 : decode cX3_problemOfRepair 43 = .ok (.iconst 3, 1) := by decide +kernel
theorem dX3_problemOfRepair_44 : decode cX3_problemOfRepair 44 = .ok (.ireturn, 1) := by decide +kernel
theorem dX3_problemOfZone_0 : decode cX3_problemOfZone 0 = .ok (.iload_n 0, 1) := by decide +kernel
theorem dX3_problemOfZone_1 : decode cX3_problemOfZone 1 = .ok (.invokestatic 87, 3) := by decide +kernel
theorem dX3_problemOfZone_4 : decode cX3_problemOfZone 4 = .ok (.ifCond .ne 5, 3) := by decide +kernel
theorem dX3_problemOfZone_7 : decode cX3_problemOfZone 7 = .ok (.iconst 1, 1) := by decide +kernel
theorem dX3_problemOfZone_8 : decode cX3_problemOfZone 8 = .ok (.ireturn, 1) := by decide +kernel
theorem dX3_problemOfZone_9 : decode cX3_problemOfZone 9 = .ok (.iload_n 1, 1) := by decide +kernel
theorem dX3_problemOfZone_10 : decode cX3_problemOfZone 10 = .ok (.iconst 1, 1) := by decide +kernel
theorem dX3_problemOfZone_11 : decode cX3_problemOfZone 11 = .ok (.if_icmp .lt 9, 3) := by decide +kernel
theorem dX3_problemOfZone_14 : decode cX3_problemOfZone 14 = .ok (.iload_n 1, 1) := by decide +kernel
theorem dX3_problemOfZone_15 : decode cX3_problemOfZone 15 = .ok (.bipush 6, 2) := by decide +kernel
theorem dX3_problemOfZone_17 : decode cX3_problemOfZone 17 = .ok (.if_icmp .le 7, 3) := by decide +kernel
theorem dX3_problemOfZone_20 : decode cX3_problemOfZone 20 = .ok (.iconst 2, 1) := by decide +kernel
theorem dX3_problemOfZone_21 : decode cX3_problemOfZone 21 = .ok (.goto 4, 3) := by decide +kernel
theorem dX3_problemOfZone_24 : decode cX3_problemOfZone 24 = .ok (.iconst 0, 1) := by decide +kernel
theorem dX3_problemOfZone_25 : decode cX3_problemOfZone 25 = .ok (.ireturn, 1) := by decide +kernel
theorem dX3_problemOfFares_0 : decode cX3_problemOfFares 0 = .ok (.iload_n 0, 1) := by decide +kernel
theorem dX3_problemOfFares_1 : decode cX3_problemOfFares 1 = .ok (.ifCond .lt 14, 3) := by decide +kernel
theorem dX3_problemOfFares_4 : decode cX3_problemOfFares 4 = .ok (.iload_n 0, 1) := by decide +kernel
theorem dX3_problemOfFares_5 : decode cX3_problemOfFares 5 = .ok (.sipush 999, 3) := by decide +kernel
theorem dX3_problemOfFares_8 : decode cX3_problemOfFares 8 = .ok (.if_icmp .gt 7, 3) := by decide +kernel
theorem dX3_problemOfFares_11 : decode cX3_problemOfFares 11 = .ok (.iconst 1, 1) := by decide +kernel
theorem dX3_problemOfFares_12 : decode cX3_problemOfFares 12 = .ok (.goto 4, 3) := by decide +kernel
theorem dX3_problemOfFares_15 : decode cX3_problemOfFares 15 = .ok (.iconst 0, 1) := by decide +kernel
theorem dX3_problemOfFares_16 : decode cX3_problemOfFares 16 = .ok (.istore_n 2, 1) := by decide +kernel
theorem dX3_problemOfFares_17 : decode cX3_problemOfFares 17 = .ok (.iload_n 1, 1) := by decide +kernel
theorem dX3_problemOfFares_18 : decode cX3_problemOfFares 18 = .ok (.ifCond .lt 13, 3) := by decide +kernel
theorem dX3_problemOfFares_21 : decode cX3_problemOfFares 21 = .ok (.iload_n 1, 1) := by decide +kernel
theorem dX3_problemOfFares_22 : decode cX3_problemOfFares 22 = .ok (.bipush 99, 2) := by decide +kernel
theorem dX3_problemOfFares_24 : decode cX3_problemOfFares 24 = .ok (.if_icmp .gt 7, 3) := by decide +kernel
theorem dX3_problemOfFares_27 : decode cX3_problemOfFares 27 = .ok (.iconst 1, 1) := by decide +kernel
theorem dX3_problemOfFares_28 : decode cX3_problemOfFares 28 = .ok (.goto 4, 3) := by decide +kernel
theorem dX3_problemOfFares_31 : decode cX3_problemOfFares 31 = .ok (.iconst 0, 1) := by decide +kernel
theorem dX3_problemOfFares_32 : decode cX3_problemOfFares 32 = .ok (.istore_n 3, 1) := by decide +kernel
theorem dX3_problemOfFares_33 : decode cX3_problemOfFares 33 = .ok (.iload_n 2, 1) := by decide +kernel
theorem dX3_problemOfFares_34 : decode cX3_problemOfFares 34 = .ok (.ifCond .eq 11, 3) := by decide +kernel
theorem dX3_problemOfFares_37 : decode cX3_problemOfFares 37 = .ok (.iload_n 3, 1) := by decide +kernel
theorem dX3_problemOfFares_38 : decode cX3_problemOfFares 38 = .ok (.ifCond .eq 7, 3) := by decide +kernel
theorem dX3_problemOfFares_41 : decode cX3_problemOfFares 41 = .ok (.iconst 0, 1) := by decide +kernel
theorem dX3_problemOfFares_42 : decode cX3_problemOfFares 42 = .ok (.goto 4, 3) := by decide +kernel
theorem dX3_problemOfFares_45 : decode cX3_problemOfFares 45 = .ok (.iconst 2, 1) := by decide +kernel
theorem dX3_problemOfFares_46 : decode cX3_problemOfFares 46 = .ok (.ireturn, 1) := by decide +kernel
theorem dX3_perform_0 : decode cX3_perform 0 = .ok (.iload_n 1, 1) := by decide +kernel
theorem dX3_perform_1 : decode cX3_perform 1 = .ok (.tableswitch 108 0 6 #[43, 58, 65, 80, 87, 94, 101], 43) := by decide +kernel
theorem dX3_perform_44 : decode cX3_perform 44 = .ok (.aload_n 0, 1) := by decide +kernel
theorem dX3_perform_45 : decode cX3_perform 45 = .ok (.iload_n 2, 1) := by decide +kernel
theorem dX3_perform_46 : decode cX3_perform 46 = .ok (.iconst 1, 1) := by decide +kernel
theorem dX3_perform_47 : decode cX3_perform 47 = .ok (.if_icmp .ne 7, 3) := by decide +kernel
theorem dX3_perform_50 : decode cX3_perform 50 = .ok (.iconst 1, 1) := by decide +kernel
theorem dX3_perform_51 : decode cX3_perform 51 = .ok (.goto 4, 3) := by decide +kernel
theorem dX3_perform_54 : decode cX3_perform 54 = .ok (.iconst 0, 1) := by decide +kernel
theorem dX3_perform_55 : decode cX3_perform 55 = .ok (.invokevirtual 100, 3) := by decide +kernel
theorem dX3_perform_58 : decode cX3_perform 58 = .ok (.ireturn, 1) := by decide +kernel
theorem dX3_perform_59 : decode cX3_perform 59 = .ok (.aload_n 0, 1) := by decide +kernel
theorem dX3_perform_60 : decode cX3_perform 60 = .ok (.iload_n 2, 1) := by decide +kernel
theorem dX3_perform_61 : decode cX3_perform 61 = .ok (.iload_n 3, 1) := by decide +kernel
theorem dX3_perform_62 : decode cX3_perform 62 = .ok (.invokevirtual 104, 3) := by decide +kernel
theorem dX3_perform_65 : decode cX3_perform 65 = .ok (.ireturn, 1) := by decide +kernel
theorem dX3_perform_66 : decode cX3_perform 66 = .ok (.aload_n 0, 1) := by decide +kernel
theorem dX3_perform_67 : decode cX3_perform 67 = .ok (.iload_n 2, 1) := by decide +kernel
theorem dX3_perform_68 : decode cX3_perform 68 = .ok (.iload_n 3, 1) := by decide +kernel
theorem dX3_perform_69 : decode cX3_perform 69 = .ok (.invokevirtual 107, 3) := by decide +kernel
theorem dX3_perform_72 : decode cX3_perform 72 = .ok (.ifCond .eq 7, 3) := by decide +kernel
theorem dX3_perform_75 : decode cX3_perform 75 = .ok (.iconst 1, 1) := by decide +kernel
theorem dX3_perform_76 : decode cX3_perform 76 = .ok (.goto 4, 3) := by decide +kernel
theorem dX3_perform_79 : decode cX3_perform 79 = .ok (.iconst 0, 1) := by decide +kernel
theorem dX3_perform_80 : decode cX3_perform 80 = .ok (.ireturn, 1) := by decide +kernel
theorem dX3_perform_81 : decode cX3_perform 81 = .ok (.aload_n 0, 1) := by decide +kernel
theorem dX3_perform_82 : decode cX3_perform 82 = .ok (.iload_n 2, 1) := by decide +kernel
theorem dX3_perform_83 : decode cX3_perform 83 = .ok (.iload_n 3, 1) := by decide +kernel
theorem dX3_perform_84 : decode cX3_perform 84 = .ok (.invokevirtual 111, 3) := by decide +kernel
theorem dX3_perform_87 : decode cX3_perform 87 = .ok (.ireturn, 1) := by decide +kernel
theorem dX3_perform_88 : decode cX3_perform 88 = .ok (.aload_n 0, 1) := by decide +kernel
theorem dX3_perform_89 : decode cX3_perform 89 = .ok (.iload_n 2, 1) := by decide +kernel
theorem dX3_perform_90 : decode cX3_perform 90 = .ok (.iload_n 3, 1) := by decide +kernel
theorem dX3_perform_91 : decode cX3_perform 91 = .ok (.invokevirtual 114, 3) := by decide +kernel
theorem dX3_perform_94 : decode cX3_perform 94 = .ok (.ireturn, 1) := by decide +kernel
theorem dX3_perform_95 : decode cX3_perform 95 = .ok (.aload_n 0, 1) := by decide +kernel
theorem dX3_perform_96 : decode cX3_perform 96 = .ok (.iload_n 2, 1) := by decide +kernel
theorem dX3_perform_97 : decode cX3_perform 97 = .ok (.iload_n 3, 1) := by decide +kernel
theorem dX3_perform_98 : decode cX3_perform 98 = .ok (.invokevirtual 117, 3) := by decide +kernel
theorem dX3_perform_101 : decode cX3_perform 101 = .ok (.ireturn, 1) := by decide +kernel
theorem dX3_perform_102 : decode cX3_perform 102 = .ok (.aload_n 0, 1) := by decide +kernel
theorem dX3_perform_103 : decode cX3_perform 103 = .ok (.iload_n 2, 1) := by decide +kernel
theorem dX3_perform_104 : decode cX3_perform 104 = .ok (.iload_n 3, 1) := by decide +kernel
theorem dX3_perform_105 : decode cX3_perform 105 = .ok (.invokevirtual 120, 3) := by decide +kernel
theorem dX3_perform_108 : decode cX3_perform 108 = .ok (.ireturn, 1) := by decide +kernel
theorem dX3_perform_109 : decode cX3_perform 109 = .ok (.aload_n 0, 1) := by decide +kernel
theorem dX3_perform_110 : decode cX3_perform 110 = .ok (.iload_n 2, 1) := by decide +kernel
theorem dX3_perform_111 : decode cX3_perform 111 = .ok (.invokevirtual 123, 3) := by decide +kernel
theorem dX3_perform_114 : decode cX3_perform 114 = .ok (.ireturn, 1) := by decide +kernel
theorem dX3_addCard_0 : decode cX3_addCard 0 = .ok (.aload_n 0, 1) := by decide +kernel
theorem dX3_addCard_1 : decode cX3_addCard 1 = .ok (.getfield 29, 3) := by decide +kernel
theorem dX3_addCard_4 : decode cX3_addCard 4 = .ok (.istore_n 2, 1) := by decide +kernel
theorem dX3_addCard_5 : decode cX3_addCard 5 = .ok (.aload_n 0, 1) := by decide +kernel
theorem dX3_addCard_6 : decode cX3_addCard 6 = .ok (.getfield 20, 3) := by decide +kernel
theorem dX3_addCard_9 : decode cX3_addCard 9 = .ok (.iload_n 2, 1) := by decide +kernel
theorem dX3_addCard_10 : decode cX3_addCard 10 = .ok (.aaload, 1) := by decide +kernel
theorem dX3_addCard_11 : decode cX3_addCard 11 = .ok (.iload_n 1, 1) := by decide +kernel
theorem dX3_addCard_12 : decode cX3_addCard 12 = .ok (.invokevirtual 127, 3) := by decide +kernel
theorem dX3_addCard_15 : decode cX3_addCard 15 = .ok (.aload_n 0, 1) := by decide +kernel
theorem dX3_addCard_16 : decode cX3_addCard 16 = .ok (.dup, 1) := by decide +kernel
theorem dX3_addCard_17 : decode cX3_addCard 17 = .ok (.getfield 29, 3) := by decide +kernel
theorem dX3_addCard_20 : decode cX3_addCard 20 = .ok (.iconst 1, 1) := by decide +kernel
theorem dX3_addCard_21 : decode cX3_addCard 21 = .ok (.iadd, 1) := by decide +kernel
theorem dX3_addCard_22 : decode cX3_addCard 22 = .ok (.putfield 29, 3) := by decide +kernel
theorem dX3_addCard_25 : decode cX3_addCard 25 = .ok (.iload_n 2, 1) := by decide +kernel
theorem dX3_addCard_26 : decode cX3_addCard 26 = .ok (.ireturn, 1) := by decide +kernel
theorem dX3_addMoney_0 : decode cX3_addMoney 0 = .ok (.aload_n 0, 1) := by decide +kernel
theorem dX3_addMoney_1 : decode cX3_addMoney 1 = .ok (.getfield 20, 3) := by decide +kernel
theorem dX3_addMoney_4 : decode cX3_addMoney 4 = .ok (.iload_n 1, 1) := by decide +kernel
theorem dX3_addMoney_5 : decode cX3_addMoney 5 = .ok (.aaload, 1) := by decide +kernel
theorem dX3_addMoney_6 : decode cX3_addMoney 6 = .ok (.dup, 1) := by decide +kernel
theorem dX3_addMoney_7 : decode cX3_addMoney 7 = .ok (.getfield 84, 3) := by decide +kernel
theorem dX3_addMoney_10 : decode cX3_addMoney 10 = .ok (.iload_n 2, 1) := by decide +kernel
theorem dX3_addMoney_11 : decode cX3_addMoney 11 = .ok (.iadd, 1) := by decide +kernel
theorem dX3_addMoney_12 : decode cX3_addMoney 12 = .ok (.putfield 84, 3) := by decide +kernel
theorem dX3_addMoney_15 : decode cX3_addMoney 15 = .ok (.aload_n 0, 1) := by decide +kernel
theorem dX3_addMoney_16 : decode cX3_addMoney 16 = .ok (.dup, 1) := by decide +kernel
theorem dX3_addMoney_17 : decode cX3_addMoney 17 = .ok (.getfield 39, 3) := by decide +kernel
theorem dX3_addMoney_20 : decode cX3_addMoney 20 = .ok (.iload_n 2, 1) := by decide +kernel
theorem dX3_addMoney_21 : decode cX3_addMoney 21 = .ok (.iadd, 1) := by decide +kernel
theorem dX3_addMoney_22 : decode cX3_addMoney 22 = .ok (.putfield 39, 3) := by decide +kernel
theorem dX3_addMoney_25 : decode cX3_addMoney 25 = .ok (.aload_n 0, 1) := by decide +kernel
theorem dX3_addMoney_26 : decode cX3_addMoney 26 = .ok (.getfield 20, 3) := by decide +kernel
theorem dX3_addMoney_29 : decode cX3_addMoney 29 = .ok (.iload_n 1, 1) := by decide +kernel
theorem dX3_addMoney_30 : decode cX3_addMoney 30 = .ok (.aaload, 1) := by decide +kernel
theorem dX3_addMoney_31 : decode cX3_addMoney 31 = .ok (.getfield 84, 3) := by decide +kernel
theorem dX3_addMoney_34 : decode cX3_addMoney 34 = .ok (.ireturn, 1) := by decide +kernel
theorem dX3_enterAt_0 : decode cX3_enterAt 0 = .ok (.aload_n 0, 1) := by decide +kernel
theorem dX3_enterAt_1 : decode cX3_enterAt 1 = .ok (.getfield 20, 3) := by decide +kernel
theorem dX3_enterAt_4 : decode cX3_enterAt 4 = .ok (.iload_n 1, 1) := by decide +kernel
theorem dX3_enterAt_5 : decode cX3_enterAt 5 = .ok (.aaload, 1) := by decide +kernel
theorem dX3_enterAt_6 : decode cX3_enterAt 6 = .ok (.astore_n 3, 1) := by decide +kernel
theorem dX3_enterAt_7 : decode cX3_enterAt 7 = .ok (.aload_n 3, 1) := by decide +kernel
theorem dX3_enterAt_8 : decode cX3_enterAt 8 = .ok (.getfield 90, 3) := by decide +kernel
theorem dX3_enterAt_11 : decode cX3_enterAt 11 = .ok (.ifCond .eq 12, 3) := by decide +kernel
theorem dX3_enterAt_14 : decode cX3_enterAt 14 = .ok (.aload_n 0, 1) := by decide +kernel
theorem dX3_enterAt_15 : decode cX3_enterAt 15 = .ok (.aload_n 3, 1) := by decide +kernel
theorem dX3_enterAt_16 : decode cX3_enterAt 16 = .ok (.aload_n 0, 1) := by decide +kernel
theorem dX3_enterAt_17 : decode cX3_enterAt 17 = .ok (.invokevirtual 54, 3) := by decide +kernel
theorem dX3_enterAt_20 : decode cX3_enterAt 20 = .ok (.invokevirtual 131, 3) := by decide +kernel
theorem dX3_enterAt_23 : decode cX3_enterAt 23 = .ok (.aload_n 0, 1) := by decide +kernel
theorem dX3_enterAt_24 : decode cX3_enterAt 24 = .ok (.getfield 12, 3) := by decide +kernel
theorem dX3_enterAt_27 : decode cX3_enterAt 27 = .ok (.getfield 135, 3) := by decide +kernel
theorem dX3_enterAt_30 : decode cX3_enterAt 30 = .ok (.iload_n 2, 1) := by decide +kernel
theorem dX3_enterAt_31 : decode cX3_enterAt 31 = .ok (.dup2, 1) := by decide +kernel
theorem dX3_enterAt_32 : decode cX3_enterAt 32 = .ok (.iaload, 1) := by decide +kernel
theorem dX3_enterAt_33 : decode cX3_enterAt 33 = .ok (.iconst 1, 1) := by decide +kernel
theorem dX3_enterAt_34 : decode cX3_enterAt 34 = .ok (.iadd, 1) := by decide +kernel
theorem dX3_enterAt_35 : decode cX3_enterAt 35 = .ok (.iastore, 1) := by decide +kernel
theorem dX3_enterAt_36 : decode cX3_enterAt 36 = .ok (.aload_n 3, 1) := by decide +kernel
theorem dX3_enterAt_37 : decode cX3_enterAt 37 = .ok (.iload_n 2, 1) := by decide +kernel
theorem dX3_enterAt_38 : decode cX3_enterAt 38 = .ok (.aload_n 0, 1) := by decide +kernel
theorem dX3_enterAt_39 : decode cX3_enterAt 39 = .ok (.getfield 36, 3) := by decide +kernel
theorem dX3_enterAt_42 : decode cX3_enterAt 42 = .ok (.invokevirtual 139, 3) := by decide +kernel
theorem dX3_enterAt_45 : decode cX3_enterAt 45 = .ok (.ireturn, 1) := by decide +kernel
theorem dX3_leaveAt_0 : decode cX3_leaveAt 0 = .ok (.aload_n 0, 1) := by decide +kernel
theorem dX3_leaveAt_1 : decode cX3_leaveAt 1 = .ok (.getfield 20, 3) := by decide +kernel
theorem dX3_leaveAt_4 : decode cX3_leaveAt 4 = .ok (.iload_n 1, 1) := by decide +kernel
theorem dX3_leaveAt_5 : decode cX3_leaveAt 5 = .ok (.aaload, 1) := by decide +kernel
theorem dX3_leaveAt_6 : decode cX3_leaveAt 6 = .ok (.astore_n 3, 1) := by decide +kernel
theorem dX3_leaveAt_7 : decode cX3_leaveAt 7 = .ok (.aload_n 3, 1) := by decide +kernel
theorem dX3_leaveAt_8 : decode cX3_leaveAt 8 = .ok (.aload_n 0, 1) := by decide +kernel
theorem dX3_leaveAt_9 : decode cX3_leaveAt 9 = .ok (.getfield 12, 3) := by decide +kernel
theorem dX3_leaveAt_12 : decode cX3_leaveAt 12 = .ok (.iload_n 2, 1) := by decide +kernel
theorem dX3_leaveAt_13 : decode cX3_leaveAt 13 = .ok (.aload_n 0, 1) := by decide +kernel
theorem dX3_leaveAt_14 : decode cX3_leaveAt 14 = .ok (.invokevirtual 54, 3) := by decide +kernel
theorem dX3_leaveAt_17 : decode cX3_leaveAt 17 = .ok (.invokevirtual 142, 3) := by decide +kernel
theorem dX3_leaveAt_20 : decode cX3_leaveAt 20 = .ok (.istore 4, 2) := by decide +kernel
theorem dX3_leaveAt_22 : decode cX3_leaveAt 22 = .ok (.aload_n 3, 1) := by decide +kernel
theorem dX3_leaveAt_23 : decode cX3_leaveAt 23 = .ok (.aload_n 0, 1) := by decide +kernel
theorem dX3_leaveAt_24 : decode cX3_leaveAt 24 = .ok (.invokevirtual 54, 3) := by decide +kernel
theorem dX3_leaveAt_27 : decode cX3_leaveAt 27 = .ok (.iload 4, 2) := by decide +kernel
theorem dX3_leaveAt_29 : decode cX3_leaveAt 29 = .ok (.invokevirtual 146, 3) := by decide +kernel
theorem dX3_leaveAt_32 : decode cX3_leaveAt 32 = .ok (.aload_n 3, 1) := by decide +kernel
theorem dX3_leaveAt_33 : decode cX3_leaveAt 33 = .ok (.iload_n 2, 1) := by decide +kernel
theorem dX3_leaveAt_34 : decode cX3_leaveAt 34 = .ok (.aload_n 0, 1) := by decide +kernel
theorem dX3_leaveAt_35 : decode cX3_leaveAt 35 = .ok (.getfield 36, 3) := by decide +kernel
theorem dX3_leaveAt_38 : decode cX3_leaveAt 38 = .ok (.iload 4, 2) := by decide +kernel
theorem dX3_leaveAt_40 : decode cX3_leaveAt 40 = .ok (.invokevirtual 150, 3) := by decide +kernel
theorem dX3_leaveAt_43 : decode cX3_leaveAt 43 = .ok (.aload_n 0, 1) := by decide +kernel
theorem dX3_leaveAt_44 : decode cX3_leaveAt 44 = .ok (.getfield 12, 3) := by decide +kernel
theorem dX3_leaveAt_47 : decode cX3_leaveAt 47 = .ok (.getfield 135, 3) := by decide +kernel
theorem dX3_leaveAt_50 : decode cX3_leaveAt 50 = .ok (.iload_n 2, 1) := by decide +kernel
theorem dX3_leaveAt_51 : decode cX3_leaveAt 51 = .ok (.dup2, 1) := by decide +kernel
theorem dX3_leaveAt_52 : decode cX3_leaveAt 52 = .ok (.iaload, 1) := by decide +kernel
theorem dX3_leaveAt_53 : decode cX3_leaveAt 53 = .ok (.iconst 1, 1) := by decide +kernel
theorem dX3_leaveAt_54 : decode cX3_leaveAt 54 = .ok (.iadd, 1) := by decide +kernel
theorem dX3_leaveAt_55 : decode cX3_leaveAt 55 = .ok (.iastore, 1) := by decide +kernel
theorem dX3_leaveAt_56 : decode cX3_leaveAt 56 = .ok (.aload_n 0, 1) := by decide +kernel
theorem dX3_leaveAt_57 : decode cX3_leaveAt 57 = .ok (.dup, 1) := by decide +kernel
theorem dX3_leaveAt_58 : decode cX3_leaveAt 58 = .ok (.getfield 42, 3) := by decide +kernel
theorem dX3_leaveAt_61 : decode cX3_leaveAt 61 = .ok (.iload 4, 2) := by decide +kernel
theorem dX3_leaveAt_63 : decode cX3_leaveAt 63 = .ok (.iadd, 1) := by decide +kernel
theorem dX3_leaveAt_64 : decode cX3_leaveAt 64 = .ok (.putfield 42, 3) := by decide +kernel
theorem dX3_leaveAt_67 : decode cX3_leaveAt 67 = .ok (.aload_n 0, 1) := by decide +kernel
theorem dX3_leaveAt_68 : decode cX3_leaveAt 68 = .ok (.dup, 1) := by decide +kernel
theorem dX3_leaveAt_69 : decode cX3_leaveAt 69 = .ok (.getfield 48, 3) := by decide +kernel
theorem dX3_leaveAt_72 : decode cX3_leaveAt 72 = .ok (.iconst 1, 1) := by decide +kernel
theorem dX3_leaveAt_73 : decode cX3_leaveAt 73 = .ok (.iadd, 1) := by decide +kernel
theorem dX3_leaveAt_74 : decode cX3_leaveAt 74 = .ok (.putfield 48, 3) := by decide +kernel
theorem dX3_leaveAt_77 : decode cX3_leaveAt 77 = .ok (.iload 4, 2) := by decide +kernel
theorem dX3_leaveAt_79 : decode cX3_leaveAt 79 = .ok (.ireturn, 1) := by decide +kernel
theorem dX3_makeIncomplete_0 : decode cX3_makeIncomplete 0 = .ok (.aload_n 1, 1) := by decide +kernel
theorem dX3_makeIncomplete_1 : decode cX3_makeIncomplete 1 = .ok (.aload_n 0, 1) := by decide +kernel
theorem dX3_makeIncomplete_2 : decode cX3_makeIncomplete 2 = .ok (.getfield 12, 3) := by decide +kernel
theorem dX3_makeIncomplete_5 : decode cX3_makeIncomplete 5 = .ok (.invokevirtual 154, 3) := by decide +kernel
theorem dX3_makeIncomplete_8 : decode cX3_makeIncomplete 8 = .ok (.invokevirtual 157, 3) := by decide +kernel
theorem dX3_makeIncomplete_11 : decode cX3_makeIncomplete 11 = .ok (.aload_n 1, 1) := by decide +kernel
theorem dX3_makeIncomplete_12 : decode cX3_makeIncomplete 12 = .ok (.iload_n 2, 1) := by decide +kernel
theorem dX3_makeIncomplete_13 : decode cX3_makeIncomplete 13 = .ok (.invokevirtual 160, 3) := by decide +kernel
theorem dX3_makeIncomplete_16 : decode cX3_makeIncomplete 16 = .ok (.invokestatic 163, 3) := by decide +kernel
theorem dX3_makeIncomplete_19 : decode cX3_makeIncomplete 19 = .ok (.istore_n 3, 1) := by decide +kernel
theorem dX3_makeIncomplete_20 : decode cX3_makeIncomplete 20 = .ok (.aload_n 1, 1) := by decide +kernel
theorem dX3_makeIncomplete_21 : decode cX3_makeIncomplete 21 = .ok (.iload_n 2, 1) := by decide +kernel
theorem dX3_makeIncomplete_22 : decode cX3_makeIncomplete 22 = .ok (.iload_n 3, 1) := by decide +kernel
theorem dX3_makeIncomplete_23 : decode cX3_makeIncomplete 23 = .ok (.invokevirtual 146, 3) := by decide +kernel
theorem dX3_makeIncomplete_26 : decode cX3_makeIncomplete 26 = .ok (.aload_n 1, 1) := by decide +kernel
theorem dX3_makeIncomplete_27 : decode cX3_makeIncomplete 27 = .ok (.iload_n 2, 1) := by decide +kernel
theorem dX3_makeIncomplete_28 : decode cX3_makeIncomplete 28 = .ok (.iload_n 3, 1) := by decide +kernel
theorem dX3_makeIncomplete_29 : decode cX3_makeIncomplete 29 = .ok (.invokevirtual 168, 3) := by decide +kernel
theorem dX3_makeIncomplete_32 : decode cX3_makeIncomplete 32 = .ok (.aload_n 0, 1) := by decide +kernel
theorem dX3_makeIncomplete_33 : decode cX3_makeIncomplete 33 = .ok (.dup, 1) := by decide +kernel
theorem dX3_makeIncomplete_34 : decode cX3_makeIncomplete 34 = .ok (.getfield 42, 3) := by decide +kernel
theorem dX3_makeIncomplete_37 : decode cX3_makeIncomplete 37 = .ok (.iload_n 3, 1) := by decide +kernel
theorem dX3_makeIncomplete_38 : decode cX3_makeIncomplete 38 = .ok (.iadd, 1) := by decide +kernel
theorem dX3_makeIncomplete_39 : decode cX3_makeIncomplete 39 = .ok (.putfield 42, 3) := by decide +kernel
theorem dX3_makeIncomplete_42 : decode cX3_makeIncomplete 42 = .ok (.aload_n 0, 1) := by decide +kernel
theorem dX3_makeIncomplete_43 : decode cX3_makeIncomplete 43 = .ok (.dup, 1) := by decide +kernel
theorem dX3_makeIncomplete_44 : decode cX3_makeIncomplete 44 = .ok (.getfield 51, 3) := by decide +kernel
theorem dX3_makeIncomplete_47 : decode cX3_makeIncomplete 47 = .ok (.iconst 1, 1) := by decide +kernel
theorem dX3_makeIncomplete_48 : decode cX3_makeIncomplete 48 = .ok (.iadd, 1) := by decide +kernel
theorem dX3_makeIncomplete_49 : decode cX3_makeIncomplete 49 = .ok (.putfield 51, 3) := by decide +kernel
theorem dX3_makeIncomplete_52 : decode cX3_makeIncomplete 52 = .ok (.return_, 1) := by decide +kernel
theorem dX3_payBack_0 : decode cX3_payBack 0 = .ok (.aload_n 0, 1) := by decide +kernel
theorem dX3_payBack_1 : decode cX3_payBack 1 = .ok (.getfield 20, 3) := by decide +kernel
theorem dX3_payBack_4 : decode cX3_payBack 4 = .ok (.iload_n 1, 1) := by decide +kernel
theorem dX3_payBack_5 : decode cX3_payBack 5 = .ok (.aaload, 1) := by decide +kernel
theorem dX3_payBack_6 : decode cX3_payBack 6 = .ok (.astore_n 3, 1) := by decide +kernel
theorem dX3_payBack_7 : decode cX3_payBack 7 = .ok (.aload_n 3, 1) := by decide +kernel
theorem dX3_payBack_8 : decode cX3_payBack 8 = .ok (.aload_n 0, 1) := by decide +kernel
theorem dX3_payBack_9 : decode cX3_payBack 9 = .ok (.getfield 12, 3) := by decide +kernel
theorem dX3_payBack_12 : decode cX3_payBack 12 = .ok (.aload_n 3, 1) := by decide +kernel
theorem dX3_payBack_13 : decode cX3_payBack 13 = .ok (.getfield 171, 3) := by decide +kernel
theorem dX3_payBack_16 : decode cX3_payBack 16 = .ok (.iload_n 2, 1) := by decide +kernel
theorem dX3_payBack_17 : decode cX3_payBack 17 = .ok (.invokevirtual 174, 3) := by decide +kernel
theorem dX3_payBack_20 : decode cX3_payBack 20 = .ok (.invokevirtual 157, 3) := by decide +kernel
theorem dX3_payBack_23 : decode cX3_payBack 23 = .ok (.istore 4, 2) := by decide +kernel
theorem dX3_payBack_25 : decode cX3_payBack 25 = .ok (.aload_n 3, 1) := by decide +kernel
theorem dX3_payBack_26 : decode cX3_payBack 26 = .ok (.getfield 177, 3) := by decide +kernel
theorem dX3_payBack_29 : decode cX3_payBack 29 = .ok (.iload 4, 2) := by decide +kernel
theorem dX3_payBack_31 : decode cX3_payBack 31 = .ok (.isub, 1) := by decide +kernel
theorem dX3_payBack_32 : decode cX3_payBack 32 = .ok (.iconst 0, 1) := by decide +kernel
theorem dX3_payBack_33 : decode cX3_payBack 33 = .ok (.invokestatic 180, 3) := by decide +kernel
theorem dX3_payBack_36 : decode cX3_payBack 36 = .ok (.istore 5, 2) := by decide +kernel
theorem dX3_payBack_38 : decode cX3_payBack 38 = .ok (.aload_n 3, 1) := by decide +kernel
theorem dX3_payBack_39 : decode cX3_payBack 39 = .ok (.aload_n 3, 1) := by decide +kernel
theorem dX3_payBack_40 : decode cX3_payBack 40 = .ok (.getfield 58, 3) := by decide +kernel
theorem dX3_payBack_43 : decode cX3_payBack 43 = .ok (.iload 5, 2) := by decide +kernel
theorem dX3_payBack_45 : decode cX3_payBack 45 = .ok (.ineg, 1) := by decide +kernel
theorem dX3_payBack_46 : decode cX3_payBack 46 = .ok (.invokevirtual 146, 3) := by decide +kernel
theorem dX3_payBack_49 : decode cX3_payBack 49 = .ok (.aload_n 3, 1) := by decide +kernel
theorem dX3_payBack_50 : decode cX3_payBack 50 = .ok (.iconst 0, 1) := by decide +kernel
theorem dX3_payBack_51 : decode cX3_payBack 51 = .ok (.putfield 94, 3) := by decide +kernel
theorem dX3_payBack_54 : decode cX3_payBack 54 = .ok (.aload_n 0, 1) := by decide +kernel
theorem dX3_payBack_55 : decode cX3_payBack 55 = .ok (.dup, 1) := by decide +kernel
theorem dX3_payBack_56 : decode cX3_payBack 56 = .ok (.getfield 45, 3) := by decide +kernel
theorem dX3_payBack_59 : decode cX3_payBack 59 = .ok (.iload 5, 2) := by decide +kernel
theorem dX3_payBack_61 : decode cX3_payBack 61 = .ok (.iadd, 1) := by decide +kernel
theorem dX3_payBack_62 : decode cX3_payBack 62 = .ok (.putfield 45, 3) := by decide +kernel
theorem dX3_payBack_65 : decode cX3_payBack 65 = .ok (.iload 5, 2) := by decide +kernel
theorem dX3_payBack_67 : decode cX3_payBack 67 = .ok (.ireturn, 1) := by decide +kernel
theorem dX3_changeZone_0 : decode cX3_changeZone 0 = .ok (.aload_n 0, 1) := by decide +kernel
theorem dX3_changeZone_1 : decode cX3_changeZone 1 = .ok (.getfield 12, 3) := by decide +kernel
theorem dX3_changeZone_4 : decode cX3_changeZone 4 = .ok (.getfield 183, 3) := by decide +kernel
theorem dX3_changeZone_7 : decode cX3_changeZone 7 = .ok (.iload_n 1, 1) := by decide +kernel
theorem dX3_changeZone_8 : decode cX3_changeZone 8 = .ok (.iaload, 1) := by decide +kernel
theorem dX3_changeZone_9 : decode cX3_changeZone 9 = .ok (.istore_n 3, 1) := by decide +kernel
theorem dX3_changeZone_10 : decode cX3_changeZone 10 = .ok (.aload_n 0, 1) := by decide +kernel
theorem dX3_changeZone_11 : decode cX3_changeZone 11 = .ok (.getfield 12, 3) := by decide +kernel
theorem dX3_changeZone_14 : decode cX3_changeZone 14 = .ok (.getfield 183, 3) := by decide +kernel
theorem dX3_changeZone_17 : decode cX3_changeZone 17 = .ok (.iload_n 1, 1) := by decide +kernel
theorem dX3_changeZone_18 : decode cX3_changeZone 18 = .ok (.iload_n 2, 1) := by decide +kernel
theorem dX3_changeZone_19 : decode cX3_changeZone 19 = .ok (.iastore, 1) := by decide +kernel
theorem dX3_changeZone_20 : decode cX3_changeZone 20 = .ok (.iload_n 3, 1) := by decide +kernel
theorem dX3_changeZone_21 : decode cX3_changeZone 21 = .ok (.ireturn, 1) := by decide +kernel
theorem dX3_changeFares_0 : decode cX3_changeFares 0 = .ok (.aload_n 0, 1) := by decide +kernel
theorem dX3_changeFares_1 : decode cX3_changeFares 1 = .ok (.getfield 12, 3) := by decide +kernel
theorem dX3_changeFares_4 : decode cX3_changeFares 4 = .ok (.getfield 186, 3) := by decide +kernel
theorem dX3_changeFares_7 : decode cX3_changeFares 7 = .ok (.istore_n 3, 1) := by decide +kernel
theorem dX3_changeFares_8 : decode cX3_changeFares 8 = .ok (.aload_n 0, 1) := by decide +kernel
theorem dX3_changeFares_9 : decode cX3_changeFares 9 = .ok (.getfield 12, 3) := by decide +kernel
theorem dX3_changeFares_12 : decode cX3_changeFares 12 = .ok (.iload_n 1, 1) := by decide +kernel
theorem dX3_changeFares_13 : decode cX3_changeFares 13 = .ok (.putfield 186, 3) := by decide +kernel
theorem dX3_changeFares_16 : decode cX3_changeFares 16 = .ok (.aload_n 0, 1) := by decide +kernel
theorem dX3_changeFares_17 : decode cX3_changeFares 17 = .ok (.getfield 12, 3) := by decide +kernel
theorem dX3_changeFares_20 : decode cX3_changeFares 20 = .ok (.iload_n 2, 1) := by decide +kernel
theorem dX3_changeFares_21 : decode cX3_changeFares 21 = .ok (.putfield 189, 3) := by decide +kernel
theorem dX3_changeFares_24 : decode cX3_changeFares 24 = .ok (.iload_n 3, 1) := by decide +kernel
theorem dX3_changeFares_25 : decode cX3_changeFares 25 = .ok (.ireturn, 1) := by decide +kernel
theorem dX3_passTime_0 : decode cX3_passTime 0 = .ok (.iconst 0, 1) := by decide +kernel
theorem dX3_passTime_1 : decode cX3_passTime 1 = .ok (.istore_n 2, 1) := by decide +kernel
theorem dX3_passTime_2 : decode cX3_passTime 2 = .ok (.aload_n 0, 1) := by decide +kernel
theorem dX3_passTime_3 : decode cX3_passTime 3 = .ok (.dup, 1) := by decide +kernel
theorem dX3_passTime_4 : decode cX3_passTime 4 = .ok (.getfield 36, 3) := by decide +kernel
theorem dX3_passTime_7 : decode cX3_passTime 7 = .ok (.iload_n 1, 1) := by decide +kernel
theorem dX3_passTime_8 : decode cX3_passTime 8 = .ok (.iadd, 1) := by decide +kernel
theorem dX3_passTime_9 : decode cX3_passTime 9 = .ok (.putfield 36, 3) := by decide +kernel
theorem dX3_passTime_12 : decode cX3_passTime 12 = .ok (.iconst 0, 1) := by decide +kernel
theorem dX3_passTime_13 : decode cX3_passTime 13 = .ok (.istore_n 3, 1) := by decide +kernel
theorem dX3_passTime_14 : decode cX3_passTime 14 = .ok (.iload_n 3, 1) := by decide +kernel
theorem dX3_passTime_15 : decode cX3_passTime 15 = .ok (.aload_n 0, 1) := by decide +kernel
theorem dX3_passTime_16 : decode cX3_passTime 16 = .ok (.getfield 29, 3) := by decide +kernel
theorem dX3_passTime_19 : decode cX3_passTime 19 = .ok (.if_icmp .ge 69, 3) := by decide +kernel
theorem dX3_passTime_22 : decode cX3_passTime 22 = .ok (.iload_n 3, 1) := by decide +kernel
theorem dX3_passTime_23 : decode cX3_passTime 23 = .ok (.bipush 8, 2) := by decide +kernel
theorem dX3_passTime_25 : decode cX3_passTime 25 = .ok (.if_icmp .ge 63, 3) := by decide +kernel
theorem dX3_passTime_28 : decode cX3_passTime 28 = .ok (.aload_n 0, 1) := by decide +kernel
theorem dX3_passTime_29 : decode cX3_passTime 29 = .ok (.getfield 20, 3) := by decide +kernel
theorem dX3_passTime_32 : decode cX3_passTime 32 = .ok (.iload_n 3, 1) := by decide +kernel
theorem dX3_passTime_33 : decode cX3_passTime 33 = .ok (.aaload, 1) := by decide +kernel
theorem dX3_passTime_34 : decode cX3_passTime 34 = .ok (.getfield 90, 3) := by decide +kernel
theorem dX3_passTime_37 : decode cX3_passTime 37 = .ok (.ifCond .eq 45, 3) := by decide +kernel
theorem dX3_passTime_40 : decode cX3_passTime 40 = .ok (.aload_n 0, 1) := by decide +kernel
theorem dX3_passTime_41 : decode cX3_passTime 41 = .ok (.getfield 20, 3) := by decide +kernel
theorem dX3_passTime_44 : decode cX3_passTime 44 = .ok (.iload_n 3, 1) := by decide +kernel
theorem dX3_passTime_45 : decode cX3_passTime 45 = .ok (.aaload, 1) := by decide +kernel
theorem dX3_passTime_46 : decode cX3_passTime 46 = .ok (.invokevirtual 192, 3) := by decide +kernel
theorem dX3_passTime_49 : decode cX3_passTime 49 = .ok (.aload_n 0, 1) := by decide +kernel
theorem dX3_passTime_50 : decode cX3_passTime 50 = .ok (.getfield 36, 3) := by decide +kernel
theorem dX3_passTime_53 : decode cX3_passTime 53 = .ok (.if_icmp .gt 29, 3) := by decide +kernel
theorem dX3_passTime_56 : decode cX3_passTime 56 = .ok (.aload_n 0, 1) := by decide +kernel
theorem dX3_passTime_57 : decode cX3_passTime 57 = .ok (.aload_n 0, 1) := by decide +kernel
theorem dX3_passTime_58 : decode cX3_passTime 58 = .ok (.getfield 20, 3) := by decide +kernel
theorem dX3_passTime_61 : decode cX3_passTime 61 = .ok (.iload_n 3, 1) := by decide +kernel
theorem dX3_passTime_62 : decode cX3_passTime 62 = .ok (.aaload, 1) := by decide +kernel
theorem dX3_passTime_63 : decode cX3_passTime 63 = .ok (.aload_n 0, 1) := by decide +kernel
theorem dX3_passTime_64 : decode cX3_passTime 64 = .ok (.getfield 20, 3) := by decide +kernel
theorem dX3_passTime_67 : decode cX3_passTime 67 = .ok (.iload_n 3, 1) := by decide +kernel
theorem dX3_passTime_68 : decode cX3_passTime 68 = .ok (.aaload, 1) := by decide +kernel
theorem dX3_passTime_69 : decode cX3_passTime 69 = .ok (.invokevirtual 192, 3) := by decide +kernel
theorem dX3_passTime_72 : decode cX3_passTime 72 = .ok (.sipush 1440, 3) := by decide +kernel
theorem dX3_passTime_75 : decode cX3_passTime 75 = .ok (.idiv, 1) := by decide +kernel
theorem dX3_passTime_76 : decode cX3_passTime 76 = .ok (.invokevirtual 131, 3) := by decide +kernel
theorem dX3_passTime_79 : decode cX3_passTime 79 = .ok (.iinc 2 1, 3) := by decide +kernel
theorem dX3_passTime_82 : decode cX3_passTime 82 = .ok (.iinc 3 1, 3) := by decide +kernel
theorem dX3_passTime_85 : decode cX3_passTime 85 = .ok (.goto (-71), 3) := by decide +kernel
theorem dX3_passTime_88 : decode cX3_passTime 88 = .ok (.iload_n 2, 1) := by decide +kernel
theorem dX3_passTime_89 : decode cX3_passTime 89 = .ok (.ireturn, 1) := by decide +kernel
theorem dX3_rankBySpending_0 : decode cX3_rankBySpending 0 = .ok (.iconst 0, 1) := by decide +kernel
theorem dX3_rankBySpending_1 : decode cX3_rankBySpending 1 = .ok (.istore_n 2, 1) := by decide +kernel
theorem dX3_rankBySpending_2 : decode cX3_rankBySpending 2 = .ok (.iconst 0, 1) := by decide +kernel
theorem dX3_rankBySpending_3 : decode cX3_rankBySpending 3 = .ok (.istore_n 3, 1) := by decide +kernel
theorem dX3_rankBySpending_4 : decode cX3_rankBySpending 4 = .ok (.iload_n 3, 1) := by decide +kernel
theorem dX3_rankBySpending_5 : decode cX3_rankBySpending 5 = .ok (.aload_n 0, 1) := by decide +kernel
theorem dX3_rankBySpending_6 : decode cX3_rankBySpending 6 = .ok (.getfield 29, 3) := by decide +kernel
theorem dX3_rankBySpending_9 : decode cX3_rankBySpending 9 = .ok (.if_icmp .ge 27, 3) := by decide +kernel
theorem dX3_rankBySpending_12 : decode cX3_rankBySpending 12 = .ok (.iload_n 3, 1) := by decide +kernel
theorem dX3_rankBySpending_13 : decode cX3_rankBySpending 13 = .ok (.bipush 8, 2) := by decide +kernel
theorem dX3_rankBySpending_15 : decode cX3_rankBySpending 15 = .ok (.if_icmp .ge 21, 3) := by decide +kernel
theorem dX3_rankBySpending_18 : decode cX3_rankBySpending 18 = .ok (.aload_n 0, 1) := by decide +kernel
theorem dX3_rankBySpending_19 : decode cX3_rankBySpending 19 = .ok (.iload_n 3, 1) := by decide +kernel
theorem dX3_rankBySpending_20 : decode cX3_rankBySpending 20 = .ok (.iload_n 1, 1) := by decide +kernel
theorem dX3_rankBySpending_21 : decode cX3_rankBySpending 21 = .ok (.invokevirtual 195, 3) := by decide +kernel
theorem dX3_rankBySpending_24 : decode cX3_rankBySpending 24 = .ok (.ifCond .eq 6, 3) := by decide +kernel
theorem dX3_rankBySpending_27 : decode cX3_rankBySpending 27 = .ok (.iinc 2 1, 3) := by decide +kernel
theorem dX3_rankBySpending_30 : decode cX3_rankBySpending 30 = .ok (.iinc 3 1, 3) := by decide +kernel
theorem dX3_rankBySpending_33 : decode cX3_rankBySpending 33 = .ok (.goto (-29), 3) := by decide +kernel
theorem dX3_rankBySpending_36 : decode cX3_rankBySpending 36 = .ok (.iload_n 2, 1) := by decide +kernel
theorem dX3_rankBySpending_37 : decode cX3_rankBySpending 37 = .ok (.ireturn, 1) := by decide +kernel
theorem dX3_spentBefore_0 : decode cX3_spentBefore 0 = .ok (.aload_n 0, 1) := by decide +kernel
theorem dX3_spentBefore_1 : decode cX3_spentBefore 1 = .ok (.getfield 20, 3) := by decide +kernel
theorem dX3_spentBefore_4 : decode cX3_spentBefore 4 = .ok (.iload_n 1, 1) := by decide +kernel
theorem dX3_spentBefore_5 : decode cX3_spentBefore 5 = .ok (.aaload, 1) := by decide +kernel
theorem dX3_spentBefore_6 : decode cX3_spentBefore 6 = .ok (.aload_n 0, 1) := by decide +kernel
theorem dX3_spentBefore_7 : decode cX3_spentBefore 7 = .ok (.invokevirtual 54, 3) := by decide +kernel
theorem dX3_spentBefore_10 : decode cX3_spentBefore 10 = .ok (.invokevirtual 198, 3) := by decide +kernel
theorem dX3_spentBefore_13 : decode cX3_spentBefore 13 = .ok (.istore_n 3, 1) := by decide +kernel
theorem dX3_spentBefore_14 : decode cX3_spentBefore 14 = .ok (.aload_n 0, 1) := by decide +kernel
theorem dX3_spentBefore_15 : decode cX3_spentBefore 15 = .ok (.getfield 20, 3) := by decide +kernel
theorem dX3_spentBefore_18 : decode cX3_spentBefore 18 = .ok (.iload_n 2, 1) := by decide +kernel
theorem dX3_spentBefore_19 : decode cX3_spentBefore 19 = .ok (.aaload, 1) := by decide +kernel
theorem dX3_spentBefore_20 : decode cX3_spentBefore 20 = .ok (.aload_n 0, 1) := by decide +kernel
theorem dX3_spentBefore_21 : decode cX3_spentBefore 21 = .ok (.invokevirtual 54, 3) := by decide +kernel
theorem dX3_spentBefore_24 : decode cX3_spentBefore 24 = .ok (.invokevirtual 198, 3) := by decide +kernel
theorem dX3_spentBefore_27 : decode cX3_spentBefore 27 = .ok (.istore 4, 2) := by decide +kernel
theorem dX3_spentBefore_29 : decode cX3_spentBefore 29 = .ok (.iload_n 3, 1) := by decide +kernel
theorem dX3_spentBefore_30 : decode cX3_spentBefore 30 = .ok (.iload 4, 2) := by decide +kernel
theorem dX3_spentBefore_32 : decode cX3_spentBefore 32 = .ok (.if_icmp .eq 15, 3) := by decide +kernel
theorem dX3_spentBefore_35 : decode cX3_spentBefore 35 = .ok (.iload_n 3, 1) := by decide +kernel
theorem dX3_spentBefore_36 : decode cX3_spentBefore 36 = .ok (.iload 4, 2) := by decide +kernel
theorem dX3_spentBefore_38 : decode cX3_spentBefore 38 = .ok (.if_icmp .le 7, 3) := by decide +kernel
theorem dX3_spentBefore_41 : decode cX3_spentBefore 41 = .ok (.iconst 1, 1) := by decide +kernel
theorem dX3_spentBefore_42 : decode cX3_spentBefore 42 = .ok (.goto 4, 3) := by decide +kernel
theorem dX3_spentBefore_45 : decode cX3_spentBefore 45 = .ok (.iconst 0, 1) := by decide +kernel
theorem dX3_spentBefore_46 : decode cX3_spentBefore 46 = .ok (.ireturn, 1) := by decide +kernel
theorem dX3_spentBefore_47 : decode cX3_spentBefore 47 = .ok (.aload_n 0, 1) := by decide +kernel
theorem dX3_spentBefore_48 : decode cX3_spentBefore 48 = .ok (.getfield 20, 3) := by decide +kernel
theorem dX3_spentBefore_51 : decode cX3_spentBefore 51 = .ok (.iload_n 1, 1) := by decide +kernel
theorem dX3_spentBefore_52 : decode cX3_spentBefore 52 = .ok (.aaload, 1) := by decide +kernel
theorem dX3_spentBefore_53 : decode cX3_spentBefore 53 = .ok (.getfield 84, 3) := by decide +kernel
theorem dX3_spentBefore_56 : decode cX3_spentBefore 56 = .ok (.aload_n 0, 1) := by decide +kernel
theorem dX3_spentBefore_57 : decode cX3_spentBefore 57 = .ok (.getfield 20, 3) := by decide +kernel
theorem dX3_spentBefore_60 : decode cX3_spentBefore 60 = .ok (.iload_n 2, 1) := by decide +kernel
theorem dX3_spentBefore_61 : decode cX3_spentBefore 61 = .ok (.aaload, 1) := by decide +kernel
theorem dX3_spentBefore_62 : decode cX3_spentBefore 62 = .ok (.getfield 84, 3) := by decide +kernel
theorem dX3_spentBefore_65 : decode cX3_spentBefore 65 = .ok (.if_icmp .eq 30, 3) := by decide +kernel
theorem dX3_spentBefore_68 : decode cX3_spentBefore 68 = .ok (.aload_n 0, 1) := by decide +kernel
theorem dX3_spentBefore_69 : decode cX3_spentBefore 69 = .ok (.getfield 20, 3) := by decide +kernel
theorem dX3_spentBefore_72 : decode cX3_spentBefore 72 = .ok (.iload_n 1, 1) := by decide +kernel
theorem dX3_spentBefore_73 : decode cX3_spentBefore 73 = .ok (.aaload, 1) := by decide +kernel
theorem dX3_spentBefore_74 : decode cX3_spentBefore 74 = .ok (.getfield 84, 3) := by decide +kernel
theorem dX3_spentBefore_77 : decode cX3_spentBefore 77 = .ok (.aload_n 0, 1) := by decide +kernel
theorem dX3_spentBefore_78 : decode cX3_spentBefore 78 = .ok (.getfield 20, 3) := by decide +kernel
theorem dX3_spentBefore_81 : decode cX3_spentBefore 81 = .ok (.iload_n 2, 1) := by decide +kernel
theorem dX3_spentBefore_82 : decode cX3_spentBefore 82 = .ok (.aaload, 1) := by decide +kernel
theorem dX3_spentBefore_83 : decode cX3_spentBefore 83 = .ok (.getfield 84, 3) := by decide +kernel
theorem dX3_spentBefore_86 : decode cX3_spentBefore 86 = .ok (.if_icmp .ge 7, 3) := by decide +kernel
theorem dX3_spentBefore_89 : decode cX3_spentBefore 89 = .ok (.iconst 1, 1) := by decide +kernel
theorem dX3_spentBefore_90 : decode cX3_spentBefore 90 = .ok (.goto 4, 3) := by decide +kernel
theorem dX3_spentBefore_93 : decode cX3_spentBefore 93 = .ok (.iconst 0, 1) := by decide +kernel
theorem dX3_spentBefore_94 : decode cX3_spentBefore 94 = .ok (.ireturn, 1) := by decide +kernel
theorem dX3_spentBefore_95 : decode cX3_spentBefore 95 = .ok (.iload_n 1, 1) := by decide +kernel
theorem dX3_spentBefore_96 : decode cX3_spentBefore 96 = .ok (.iload_n 2, 1) := by decide +kernel
theorem dX3_spentBefore_97 : decode cX3_spentBefore 97 = .ok (.if_icmp .ge 7, 3) := by decide +kernel
theorem dX3_spentBefore_100 : decode cX3_spentBefore 100 = .ok (.iconst 1, 1) := by decide +kernel
theorem dX3_spentBefore_101 : decode cX3_spentBefore 101 = .ok (.goto 4, 3) := by decide +kernel
theorem dX3_spentBefore_104 : decode cX3_spentBefore 104 = .ok (.iconst 0, 1) := by decide +kernel
theorem dX3_spentBefore_105 : decode cX3_spentBefore 105 = .ok (.ireturn, 1) := by decide +kernel
theorem dX3_sumsAgree_0 : decode cX3_sumsAgree 0 = .ok (.aload_n 0, 1) := by decide +kernel
theorem dX3_sumsAgree_1 : decode cX3_sumsAgree 1 = .ok (.invokevirtual 54, 3) := by decide +kernel
theorem dX3_sumsAgree_4 : decode cX3_sumsAgree 4 = .ok (.istore_n 1, 1) := by decide +kernel
theorem dX3_sumsAgree_5 : decode cX3_sumsAgree 5 = .ok (.iconst 0, 1) := by decide +kernel
theorem dX3_sumsAgree_6 : decode cX3_sumsAgree 6 = .ok (.istore_n 2, 1) := by decide +kernel
theorem dX3_sumsAgree_7 : decode cX3_sumsAgree 7 = .ok (.iload_n 2, 1) := by decide +kernel
theorem dX3_sumsAgree_8 : decode cX3_sumsAgree 8 = .ok (.aload_n 0, 1) := by decide +kernel
theorem dX3_sumsAgree_9 : decode cX3_sumsAgree 9 = .ok (.getfield 29, 3) := by decide +kernel
theorem dX3_sumsAgree_12 : decode cX3_sumsAgree 12 = .ok (.if_icmp .ge 77, 3) := by decide +kernel
theorem dX3_sumsAgree_15 : decode cX3_sumsAgree 15 = .ok (.iload_n 2, 1) := by decide +kernel
theorem dX3_sumsAgree_16 : decode cX3_sumsAgree 16 = .ok (.bipush 8, 2) := by decide +kernel
theorem dX3_sumsAgree_18 : decode cX3_sumsAgree 18 = .ok (.if_icmp .ge 71, 3) := by decide +kernel
theorem dX3_sumsAgree_21 : decode cX3_sumsAgree 21 = .ok (.iload_n 1, 1) := by decide +kernel
theorem dX3_sumsAgree_22 : decode cX3_sumsAgree 22 = .ok (.iconst 2, 1) := by decide +kernel
theorem dX3_sumsAgree_23 : decode cX3_sumsAgree 23 = .ok (.isub, 1) := by decide +kernel
theorem dX3_sumsAgree_24 : decode cX3_sumsAgree 24 = .ok (.iconst 0, 1) := by decide +kernel
theorem dX3_sumsAgree_25 : decode cX3_sumsAgree 25 = .ok (.invokestatic 180, 3) := by decide +kernel
theorem dX3_sumsAgree_28 : decode cX3_sumsAgree 28 = .ok (.istore_n 3, 1) := by decide +kernel
theorem dX3_sumsAgree_29 : decode cX3_sumsAgree 29 = .ok (.iload_n 3, 1) := by decide +kernel
theorem dX3_sumsAgree_30 : decode cX3_sumsAgree 30 = .ok (.iload_n 1, 1) := by decide +kernel
theorem dX3_sumsAgree_31 : decode cX3_sumsAgree 31 = .ok (.if_icmp .gt 52, 3) := by decide +kernel
theorem dX3_sumsAgree_34 : decode cX3_sumsAgree 34 = .ok (.aload_n 0, 1) := by decide +kernel
theorem dX3_sumsAgree_35 : decode cX3_sumsAgree 35 = .ok (.getfield 20, 3) := by decide +kernel
theorem dX3_sumsAgree_38 : decode cX3_sumsAgree 38 = .ok (.iload_n 2, 1) := by decide +kernel
theorem dX3_sumsAgree_39 : decode cX3_sumsAgree 39 = .ok (.aaload, 1) := by decide +kernel
theorem dX3_sumsAgree_40 : decode cX3_sumsAgree 40 = .ok (.iload_n 3, 1) := by decide +kernel
theorem dX3_sumsAgree_41 : decode cX3_sumsAgree 41 = .ok (.invokevirtual 198, 3) := by decide +kernel
theorem dX3_sumsAgree_44 : decode cX3_sumsAgree 44 = .ok (.istore 4, 2) := by decide +kernel
theorem dX3_sumsAgree_46 : decode cX3_sumsAgree 46 = .ok (.iload 4, 2) := by decide +kernel
theorem dX3_sumsAgree_48 : decode cX3_sumsAgree 48 = .ok (.aload_n 0, 1) := by decide +kernel
theorem dX3_sumsAgree_49 : decode cX3_sumsAgree 49 = .ok (.getfield 20, 3) := by decide +kernel
theorem dX3_sumsAgree_52 : decode cX3_sumsAgree 52 = .ok (.iload_n 2, 1) := by decide +kernel
theorem dX3_sumsAgree_53 : decode cX3_sumsAgree 53 = .ok (.aaload, 1) := by decide +kernel
theorem dX3_sumsAgree_54 : decode cX3_sumsAgree 54 = .ok (.iload_n 3, 1) := by decide +kernel
theorem dX3_sumsAgree_55 : decode cX3_sumsAgree 55 = .ok (.invokevirtual 201, 3) := by decide +kernel
theorem dX3_sumsAgree_58 : decode cX3_sumsAgree 58 = .ok (.if_icmp .ne 17, 3) := by decide +kernel
theorem dX3_sumsAgree_61 : decode cX3_sumsAgree 61 = .ok (.iload 4, 2) := by decide +kernel
theorem dX3_sumsAgree_63 : decode cX3_sumsAgree 63 = .ok (.aload_n 0, 1) := by decide +kernel
theorem dX3_sumsAgree_64 : decode cX3_sumsAgree 64 = .ok (.getfield 20, 3) := by decide +kernel
theorem dX3_sumsAgree_67 : decode cX3_sumsAgree 67 = .ok (.iload_n 2, 1) := by decide +kernel
theorem dX3_sumsAgree_68 : decode cX3_sumsAgree 68 = .ok (.aaload, 1) := by decide +kernel
theorem dX3_sumsAgree_69 : decode cX3_sumsAgree 69 = .ok (.invokevirtual 204, 3) := by decide +kernel
theorem dX3_sumsAgree_72 : decode cX3_sumsAgree 72 = .ok (.if_icmp .le 5, 3) := by decide +kernel
theorem dX3_sumsAgree_75 : decode cX3_sumsAgree 75 = .ok (.iconst 0, 1) := by decide +kernel
theorem dX3_sumsAgree_76 : decode cX3_sumsAgree 76 = .ok (.ireturn, 1) := by decide +kernel
theorem dX3_sumsAgree_77 : decode cX3_sumsAgree 77 = .ok (.iinc 3 1, 3) := by decide +kernel
theorem dX3_sumsAgree_80 : decode cX3_sumsAgree 80 = .ok (.goto (-51), 3) := by decide +kernel
theorem dX3_sumsAgree_83 : decode cX3_sumsAgree 83 = .ok (.iinc 2 1, 3) := by decide +kernel
theorem dX3_sumsAgree_86 : decode cX3_sumsAgree 86 = .ok (.goto (-79), 3) := by decide +kernel
theorem dX3_sumsAgree_89 : decode cX3_sumsAgree 89 = .ok (.iconst 1, 1) := by decide +kernel
theorem dX3_sumsAgree_90 : decode cX3_sumsAgree 90 = .ok (.ireturn, 1) := by decide +kernel
theorem dX3_balancesAgree_0 : decode cX3_balancesAgree 0 = .ok (.iconst 0, 1) := by decide +kernel
theorem dX3_balancesAgree_1 : decode cX3_balancesAgree 1 = .ok (.istore_n 1, 1) := by decide +kernel
theorem dX3_balancesAgree_2 : decode cX3_balancesAgree 2 = .ok (.iconst 0, 1) := by decide +kernel
theorem dX3_balancesAgree_3 : decode cX3_balancesAgree 3 = .ok (.istore_n 2, 1) := by decide +kernel
theorem dX3_balancesAgree_4 : decode cX3_balancesAgree 4 = .ok (.iload_n 2, 1) := by decide +kernel
theorem dX3_balancesAgree_5 : decode cX3_balancesAgree 5 = .ok (.aload_n 0, 1) := by decide +kernel
theorem dX3_balancesAgree_6 : decode cX3_balancesAgree 6 = .ok (.getfield 29, 3) := by decide +kernel
theorem dX3_balancesAgree_9 : decode cX3_balancesAgree 9 = .ok (.if_icmp .ge 27, 3) := by decide +kernel
theorem dX3_balancesAgree_12 : decode cX3_balancesAgree 12 = .ok (.iload_n 2, 1) := by decide +kernel
theorem dX3_balancesAgree_13 : decode cX3_balancesAgree 13 = .ok (.bipush 8, 2) := by decide +kernel
theorem dX3_balancesAgree_15 : decode cX3_balancesAgree 15 = .ok (.if_icmp .ge 21, 3) := by decide +kernel
theorem dX3_balancesAgree_18 : decode cX3_balancesAgree 18 = .ok (.iload_n 1, 1) := by decide +kernel
theorem dX3_balancesAgree_19 : decode cX3_balancesAgree 19 = .ok (.aload_n 0, 1) := by decide +kernel
theorem dX3_balancesAgree_20 : decode cX3_balancesAgree 20 = .ok (.getfield 20, 3) := by decide +kernel
theorem dX3_balancesAgree_23 : decode cX3_balancesAgree 23 = .ok (.iload_n 2, 1) := by decide +kernel
theorem dX3_balancesAgree_24 : decode cX3_balancesAgree 24 = .ok (.aaload, 1) := by decide +kernel
theorem dX3_balancesAgree_25 : decode cX3_balancesAgree 25 = .ok (.getfield 84, 3) := by decide +kernel
theorem dX3_balancesAgree_28 : decode cX3_balancesAgree 28 = .ok (.iadd, 1) := by decide +kernel
theorem dX3_balancesAgree_29 : decode cX3_balancesAgree 29 = .ok (.istore_n 1, 1) := by decide +kernel
theorem dX3_balancesAgree_30 : decode cX3_balancesAgree 30 = .ok (.iinc 2 1, 3) := by decide +kernel
theorem dX3_balancesAgree_33 : decode cX3_balancesAgree 33 = .ok (.goto (-29), 3) := by decide +kernel
theorem dX3_balancesAgree_36 : decode cX3_balancesAgree 36 = .ok (.iload_n 1, 1) := by decide +kernel
theorem dX3_balancesAgree_37 : decode cX3_balancesAgree 37 = .ok (.aload_n 0, 1) := by decide +kernel
theorem dX3_balancesAgree_38 : decode cX3_balancesAgree 38 = .ok (.getfield 39, 3) := by decide +kernel
theorem dX3_balancesAgree_41 : decode cX3_balancesAgree 41 = .ok (.aload_n 0, 1) := by decide +kernel
theorem dX3_balancesAgree_42 : decode cX3_balancesAgree 42 = .ok (.getfield 42, 3) := by decide +kernel
theorem dX3_balancesAgree_45 : decode cX3_balancesAgree 45 = .ok (.isub, 1) := by decide +kernel
theorem dX3_balancesAgree_46 : decode cX3_balancesAgree 46 = .ok (.aload_n 0, 1) := by decide +kernel
theorem dX3_balancesAgree_47 : decode cX3_balancesAgree 47 = .ok (.getfield 45, 3) := by decide +kernel
theorem dX3_balancesAgree_50 : decode cX3_balancesAgree 50 = .ok (.iadd, 1) := by decide +kernel
theorem dX3_balancesAgree_51 : decode cX3_balancesAgree 51 = .ok (.if_icmp .ne 7, 3) := by decide +kernel
theorem dX3_balancesAgree_54 : decode cX3_balancesAgree 54 = .ok (.iconst 1, 1) := by decide +kernel
theorem dX3_balancesAgree_55 : decode cX3_balancesAgree 55 = .ok (.goto 4, 3) := by decide +kernel
theorem dX3_balancesAgree_58 : decode cX3_balancesAgree 58 = .ok (.iconst 0, 1) := by decide +kernel
theorem dX3_balancesAgree_59 : decode cX3_balancesAgree 59 = .ok (.ireturn, 1) := by decide +kernel
